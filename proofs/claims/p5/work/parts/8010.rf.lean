theorem dr_cX17_spill_0 : decode cX17_spill 0 = .ok (.iconst 0, 1) := by decide +kernel
theorem dr_cX17_spill_1 : decode cX17_spill 1 = .ok (.istore_n 2, 1) := by decide +kernel
theorem dr_cX17_spill_2 : decode cX17_spill 2 = .ok (.iload_n 2, 1) := by decide +kernel
theorem dr_cX17_spill_3 : decode cX17_spill 3 = .ok (.sipush 2000, 3) := by decide +kernel
theorem dr_cX17_spill_6 : decode cX17_spill 6 = .ok (.if_icmp .ge 65, 3) := by decide +kernel
theorem dr_cX17_spill_71 : decode cX17_spill 71 = .ok (.iconst 0, 1) := by decide +kernel
theorem dr_cX17_spill_72 : decode cX17_spill 72 = .ok (.istore_n 2, 1) := by decide +kernel
theorem dr_cX17_spill_73 : decode cX17_spill 73 = .ok (.iload_n 2, 1) := by decide +kernel
theorem dr_cX17_spill_74 : decode cX17_spill 74 = .ok (.aload_n 1, 1) := by decide +kernel
theorem dr_cX17_spill_75 : decode cX17_spill 75 = .ok (.invokevirtual 96, 3) := by decide +kernel
theorem dr_cX17_spill_78 : decode cX17_spill 78 = .ok (.if_icmp .ge 353, 3) := by decide +kernel
theorem dr_cX17_spill_431 : decode cX17_spill 431 = .ok (.aload_n 1, 1) := by decide +kernel
theorem dr_cX17_spill_432 : decode cX17_spill 432 = .ok (.invokevirtual 234, 3) := by decide +kernel
theorem dr_cX17_spill_435 : decode cX17_spill 435 = .ok (.sipush 4000, 3) := by decide +kernel
theorem dr_cX17_spill_438 : decode cX17_spill 438 = .ok (.if_icmp .gt 7, 3) := by decide +kernel
theorem dr_cX17_spill_445 : decode cX17_spill 445 = .ok (.iconst 0, 1) := by decide +kernel
theorem dr_cX17_spill_446 : decode cX17_spill 446 = .ok (.ireturn, 1) := by decide +kernel
theorem dr_cX17_spill_441 : decode cX17_spill 441 = .ok (.iconst 1, 1) := by decide +kernel
theorem dr_cX17_spill_442 : decode cX17_spill 442 = .ok (.goto 4, 3) := by decide +kernel
theorem dr_cX17_spill_81 : decode cX17_spill 81 = .ok (.aload_n 1, 1) := by decide +kernel
theorem dr_cX17_spill_82 : decode cX17_spill 82 = .ok (.iload_n 2, 1) := by decide +kernel
theorem dr_cX17_spill_83 : decode cX17_spill 83 = .ok (.invokevirtual 101, 3) := by decide +kernel
theorem dr_cX17_spill_86 : decode cX17_spill 86 = .ok (.astore_n 3, 1) := by decide +kernel
theorem dr_cX17_spill_87 : decode cX17_spill 87 = .ok (.iconst 0, 1) := by decide +kernel
theorem dr_cX17_spill_88 : decode cX17_spill 88 = .ok (.istore 4, 2) := by decide +kernel
theorem dr_cX17_spill_90 : decode cX17_spill 90 = .ok (.iload 4, 2) := by decide +kernel
theorem dr_cX17_spill_92 : decode cX17_spill 92 = .ok (.aload_n 3, 1) := by decide +kernel
theorem dr_cX17_spill_93 : decode cX17_spill 93 = .ok (.getfield 117, 3) := by decide +kernel
theorem dr_cX17_spill_96 : decode cX17_spill 96 = .ok (.invokevirtual 121, 3) := by decide +kernel
theorem dr_cX17_spill_99 : decode cX17_spill 99 = .ok (.if_icmp .gt 326, 3) := by decide +kernel
theorem dr_cX17_spill_425 : decode cX17_spill 425 = .ok (.iinc 2 1, 3) := by decide +kernel
theorem dr_cX17_spill_428 : decode cX17_spill 428 = .ok (.goto (-355), 3) := by decide +kernel
theorem dr_cX17_spill_292 : decode cX17_spill 292 = .ok (.aload 5, 2) := by decide +kernel
theorem dr_cX17_spill_294 : decode cX17_spill 294 = .ok (.invokevirtual 48, 3) := by decide +kernel
theorem dr_cX17_spill_297 : decode cX17_spill 297 = .ok (.ifCond .eq 122, 3) := by decide +kernel
theorem dr_cX17_spill_419 : decode cX17_spill 419 = .ok (.iinc 4 1, 3) := by decide +kernel
theorem dr_cX17_spill_422 : decode cX17_spill 422 = .ok (.goto (-332), 3) := by decide +kernel
theorem dr_cX17_spill_300 : decode cX17_spill 300 = .ok (.aload 5, 2) := by decide +kernel
theorem dr_cX17_spill_302 : decode cX17_spill 302 = .ok (.getfield 39, 3) := by decide +kernel
theorem dr_cX17_spill_305 : decode cX17_spill 305 = .ok (.bipush 21, 2) := by decide +kernel
theorem dr_cX17_spill_307 : decode cX17_spill 307 = .ok (.if_icmp .eq 112, 3) := by decide +kernel
theorem dr_cX17_spill_310 : decode cX17_spill 310 = .ok (.aload_n 0, 1) := by decide +kernel
theorem dr_cX17_spill_311 : decode cX17_spill 311 = .ok (.getfield 221, 3) := by decide +kernel
theorem dr_cX17_spill_314 : decode cX17_spill 314 = .ok (.aload 5, 2) := by decide +kernel
theorem dr_cX17_spill_316 : decode cX17_spill 316 = .ok (.getfield 52, 3) := by decide +kernel
theorem dr_cX17_spill_319 : decode cX17_spill 319 = .ok (.iaload, 1) := by decide +kernel
theorem dr_cX17_spill_320 : decode cX17_spill 320 = .ok (.ifCond .ge 6, 3) := by decide +kernel
theorem dr_cX17_spill_326 : decode cX17_spill 326 = .ok (.aload_n 0, 1) := by decide +kernel
theorem dr_cX17_spill_327 : decode cX17_spill 327 = .ok (.getfield 221, 3) := by decide +kernel
theorem dr_cX17_spill_330 : decode cX17_spill 330 = .ok (.aload 5, 2) := by decide +kernel
theorem dr_cX17_spill_332 : decode cX17_spill 332 = .ok (.getfield 52, 3) := by decide +kernel
theorem dr_cX17_spill_335 : decode cX17_spill 335 = .ok (.iaload, 1) := by decide +kernel
theorem dr_cX17_spill_336 : decode cX17_spill 336 = .ok (.istore 8, 2) := by decide +kernel
theorem dr_cX17_spill_338 : decode cX17_spill 338 = .ok (.aload_n 0, 1) := by decide +kernel
theorem dr_cX17_spill_339 : decode cX17_spill 339 = .ok (.getfield 231, 3) := by decide +kernel
theorem dr_cX17_spill_342 : decode cX17_spill 342 = .ok (.sipush 2000, 3) := by decide +kernel
theorem dr_cX17_spill_345 : decode cX17_spill 345 = .ok (.if_icmp .ne 5, 3) := by decide +kernel
theorem dr_cX17_spill_350 : decode cX17_spill 350 = .ok (.aload 5, 2) := by decide +kernel
theorem dr_cX17_spill_352 : decode cX17_spill 352 = .ok (.aload_n 0, 1) := by decide +kernel
theorem dr_cX17_spill_353 : decode cX17_spill 353 = .ok (.getfield 231, 3) := by decide +kernel
theorem dr_cX17_spill_356 : decode cX17_spill 356 = .ok (.putfield 52, 3) := by decide +kernel
theorem dr_cX17_spill_359 : decode cX17_spill 359 = .ok (.aload_n 0, 1) := by decide +kernel
theorem dr_cX17_spill_360 : decode cX17_spill 360 = .ok (.dup, 1) := by decide +kernel
theorem dr_cX17_spill_361 : decode cX17_spill 361 = .ok (.getfield 231, 3) := by decide +kernel
theorem dr_cX17_spill_364 : decode cX17_spill 364 = .ok (.iconst 1, 1) := by decide +kernel
theorem dr_cX17_spill_365 : decode cX17_spill 365 = .ok (.iadd, 1) := by decide +kernel
theorem dr_cX17_spill_366 : decode cX17_spill 366 = .ok (.putfield 231, 3) := by decide +kernel
theorem dr_cX17_spill_369 : decode cX17_spill 369 = .ok (.aload_n 1, 1) := by decide +kernel
theorem dr_cX17_spill_370 : decode cX17_spill 370 = .ok (.invokevirtual 177, 3) := by decide +kernel
theorem dr_cX17_spill_373 : decode cX17_spill 373 = .ok (.astore 9, 2) := by decide +kernel
theorem dr_cX17_spill_375 : decode cX17_spill 375 = .ok (.aload 9, 2) := by decide +kernel
theorem dr_cX17_spill_377 : decode cX17_spill 377 = .ok (.bipush 23, 2) := by decide +kernel
theorem dr_cX17_spill_379 : decode cX17_spill 379 = .ok (.putfield 39, 3) := by decide +kernel
theorem dr_cX17_spill_382 : decode cX17_spill 382 = .ok (.aload 9, 2) := by decide +kernel
theorem dr_cX17_spill_384 : decode cX17_spill 384 = .ok (.iload 8, 2) := by decide +kernel
theorem dr_cX17_spill_386 : decode cX17_spill 386 = .ok (.putfield 45, 3) := by decide +kernel
theorem dr_cX17_spill_389 : decode cX17_spill 389 = .ok (.aload 9, 2) := by decide +kernel
theorem dr_cX17_spill_391 : decode cX17_spill 391 = .ok (.aload 5, 2) := by decide +kernel
theorem dr_cX17_spill_393 : decode cX17_spill 393 = .ok (.getfield 52, 3) := by decide +kernel
theorem dr_cX17_spill_396 : decode cX17_spill 396 = .ok (.putfield 73, 3) := by decide +kernel
theorem dr_cX17_spill_399 : decode cX17_spill 399 = .ok (.aload 9, 2) := by decide +kernel
theorem dr_cX17_spill_401 : decode cX17_spill 401 = .ok (.iconst 1, 1) := by decide +kernel
theorem dr_cX17_spill_402 : decode cX17_spill 402 = .ok (.putfield 141, 3) := by decide +kernel
theorem dr_cX17_spill_405 : decode cX17_spill 405 = .ok (.iinc 4 1, 3) := by decide +kernel
theorem dr_cX17_spill_408 : decode cX17_spill 408 = .ok (.aload_n 3, 1) := by decide +kernel
theorem dr_cX17_spill_409 : decode cX17_spill 409 = .ok (.getfield 117, 3) := by decide +kernel
theorem dr_cX17_spill_412 : decode cX17_spill 412 = .ok (.iload 4, 2) := by decide +kernel
theorem dr_cX17_spill_414 : decode cX17_spill 414 = .ok (.aload 9, 2) := by decide +kernel
theorem dr_cX17_spill_416 : decode cX17_spill 416 = .ok (.invokevirtual 181, 3) := by decide +kernel
theorem dr_cX17_spill_348 : decode cX17_spill 348 = .ok (.iconst 0, 1) := by decide +kernel
theorem dr_cX17_spill_349 : decode cX17_spill 349 = .ok (.ireturn, 1) := by decide +kernel
theorem dr_cX17_spill_323 : decode cX17_spill 323 = .ok (.goto 96, 3) := by decide +kernel
theorem dr_cX17_spill_236 : decode cX17_spill 236 = .ok (.iload 7, 2) := by decide +kernel
theorem dr_cX17_spill_238 : decode cX17_spill 238 = .ok (.ifCond .lt 54, 3) := by decide +kernel
theorem dr_cX17_spill_241 : decode cX17_spill 241 = .ok (.iload 7, 2) := by decide +kernel
theorem dr_cX17_spill_243 : decode cX17_spill 243 = .ok (.iload 6, 2) := by decide +kernel
theorem dr_cX17_spill_245 : decode cX17_spill 245 = .ok (.if_icmp .eq 47, 3) := by decide +kernel
theorem dr_cX17_spill_248 : decode cX17_spill 248 = .ok (.aload_n 0, 1) := by decide +kernel
theorem dr_cX17_spill_249 : decode cX17_spill 249 = .ok (.getfield 221, 3) := by decide +kernel
theorem dr_cX17_spill_252 : decode cX17_spill 252 = .ok (.iload 7, 2) := by decide +kernel
theorem dr_cX17_spill_254 : decode cX17_spill 254 = .ok (.iaload, 1) := by decide +kernel
theorem dr_cX17_spill_255 : decode cX17_spill 255 = .ok (.ifCond .lt 37, 3) := by decide +kernel
theorem dr_cX17_spill_258 : decode cX17_spill 258 = .ok (.aload_n 0, 1) := by decide +kernel
theorem dr_cX17_spill_259 : decode cX17_spill 259 = .ok (.aload_n 1, 1) := by decide +kernel
theorem dr_cX17_spill_260 : decode cX17_spill 260 = .ok (.aload_n 3, 1) := by decide +kernel
theorem dr_cX17_spill_261 : decode cX17_spill 261 = .ok (.iload 4, 2) := by decide +kernel
theorem dr_cX17_spill_263 : decode cX17_spill 263 = .ok (.aload_n 0, 1) := by decide +kernel
theorem dr_cX17_spill_264 : decode cX17_spill 264 = .ok (.getfield 221, 3) := by decide +kernel
theorem dr_cX17_spill_267 : decode cX17_spill 267 = .ok (.iload 7, 2) := by decide +kernel
theorem dr_cX17_spill_269 : decode cX17_spill 269 = .ok (.iaload, 1) := by decide +kernel
theorem dr_cX17_spill_270 : decode cX17_spill 270 = .ok (.invokevirtual 227, 3) := by decide +kernel
theorem wr_11_63 : (Jvm.Cond.methodLink "SpillForgeModel" (227 : Nat) ({ cls := "SpillForgeModel", name := "load", desc := "(LSpillForgeModel$Code;LSpillForgeModel$Block;II)I" } : Jvm.MethodName)) ∈ gw := gw_11 63 rfl rfl
theorem wr_11_66 : (Jvm.Cond.code ({ cls := "SpillForgeModel", name := "load", desc := "(LSpillForgeModel$Code;LSpillForgeModel$Block;II)I" } : Jvm.MethodName) prog_14_method_23_code (6 : Nat) (Option.some Jvm.ClassFile.FieldType.int)) ∈ gw := gw_11 66 rfl rfl
theorem wr_11_65 : (Jvm.Cond.instanceMethod ({ cls := "SpillForgeModel", name := "load", desc := "(LSpillForgeModel$Code;LSpillForgeModel$Block;II)I" } : Jvm.MethodName)) ∈ gw := gw_11 65 rfl rfl
theorem wr_p_111 : Cond.selects "SpillForgeModel" ⟨"SpillForgeModel", "load", "(LSpillForgeModel$Code;LSpillForgeModel$Block;II)I"⟩ ⟨"SpillForgeModel", "load", "(LSpillForgeModel$Code;LSpillForgeModel$Block;II)I"⟩ ∈ gw := gw_p _ 111 rfl rfl rfl
theorem dr_cX17_spill_273 : decode cX17_spill 273 = .ok (.istore 8, 2) := by decide +kernel
theorem dr_cX17_spill_275 : decode cX17_spill 275 = .ok (.iload 8, 2) := by decide +kernel
theorem dr_cX17_spill_277 : decode cX17_spill 277 = .ok (.ifCond .ge 5, 3) := by decide +kernel
theorem dr_cX17_spill_282 : decode cX17_spill 282 = .ok (.iinc 4 1, 3) := by decide +kernel
theorem dr_cX17_spill_285 : decode cX17_spill 285 = .ok (.aload 5, 2) := by decide +kernel
theorem dr_cX17_spill_287 : decode cX17_spill 287 = .ok (.iload 8, 2) := by decide +kernel
theorem dr_cX17_spill_289 : decode cX17_spill 289 = .ok (.putfield 79, 3) := by decide +kernel
theorem dr_cX17_spill_280 : decode cX17_spill 280 = .ok (.iconst 0, 1) := by decide +kernel
theorem dr_cX17_spill_281 : decode cX17_spill 281 = .ok (.ireturn, 1) := by decide +kernel
theorem dr_cX17_spill_102 : decode cX17_spill 102 = .ok (.iload 4, 2) := by decide +kernel
theorem dr_cX17_spill_104 : decode cX17_spill 104 = .ok (.aload_n 3, 1) := by decide +kernel
theorem dr_cX17_spill_105 : decode cX17_spill 105 = .ok (.getfield 117, 3) := by decide +kernel
theorem dr_cX17_spill_108 : decode cX17_spill 108 = .ok (.invokevirtual 121, 3) := by decide +kernel
theorem dr_cX17_spill_111 : decode cX17_spill 111 = .ok (.if_icmp .ge 18, 3) := by decide +kernel
theorem dr_cX17_spill_129 : decode cX17_spill 129 = .ok (.aload_n 3, 1) := by decide +kernel
theorem dr_cX17_spill_130 : decode cX17_spill 130 = .ok (.getfield 109, 3) := by decide +kernel
theorem dr_cX17_spill_133 : decode cX17_spill 133 = .ok (.astore 5, 2) := by decide +kernel
theorem dr_cX17_spill_135 : decode cX17_spill 135 = .ok (.aload 5, 2) := by decide +kernel
theorem dr_cX17_spill_137 : decode cX17_spill 137 = .ok (.invokevirtual 70, 3) := by decide +kernel
theorem dr_cX17_spill_140 : decode cX17_spill 140 = .ok (.ifCond .eq 11, 3) := by decide +kernel
theorem dr_cX17_spill_151 : decode cX17_spill 151 = .ok (.iconst (-1), 1) := by decide +kernel
theorem dr_cX17_spill_152 : decode cX17_spill 152 = .ok (.istore 6, 2) := by decide +kernel
theorem dr_cX17_spill_154 : decode cX17_spill 154 = .ok (.aload 5, 2) := by decide +kernel
theorem dr_cX17_spill_156 : decode cX17_spill 156 = .ok (.invokevirtual 76, 3) := by decide +kernel
theorem dr_cX17_spill_159 : decode cX17_spill 159 = .ok (.ifCond .eq 11, 3) := by decide +kernel
theorem dr_cX17_spill_170 : decode cX17_spill 170 = .ok (.iconst (-1), 1) := by decide +kernel
theorem dr_cX17_spill_171 : decode cX17_spill 171 = .ok (.istore 7, 2) := by decide +kernel
theorem dr_cX17_spill_173 : decode cX17_spill 173 = .ok (.iload 6, 2) := by decide +kernel
theorem dr_cX17_spill_175 : decode cX17_spill 175 = .ok (.ifCond .lt 61, 3) := by decide +kernel
theorem dr_cX17_spill_162 : decode cX17_spill 162 = .ok (.aload 5, 2) := by decide +kernel
theorem dr_cX17_spill_164 : decode cX17_spill 164 = .ok (.getfield 79, 3) := by decide +kernel
theorem dr_cX17_spill_167 : decode cX17_spill 167 = .ok (.goto 4, 3) := by decide +kernel
theorem dr_cX17_spill_143 : decode cX17_spill 143 = .ok (.aload 5, 2) := by decide +kernel
theorem dr_cX17_spill_145 : decode cX17_spill 145 = .ok (.getfield 73, 3) := by decide +kernel
theorem dr_cX17_spill_148 : decode cX17_spill 148 = .ok (.goto 4, 3) := by decide +kernel
theorem dr_cX17_spill_178 : decode cX17_spill 178 = .ok (.aload_n 0, 1) := by decide +kernel
theorem dr_cX17_spill_179 : decode cX17_spill 179 = .ok (.getfield 221, 3) := by decide +kernel
theorem dr_cX17_spill_182 : decode cX17_spill 182 = .ok (.iload 6, 2) := by decide +kernel
theorem dr_cX17_spill_184 : decode cX17_spill 184 = .ok (.iaload, 1) := by decide +kernel
theorem dr_cX17_spill_185 : decode cX17_spill 185 = .ok (.ifCond .lt 51, 3) := by decide +kernel
theorem dr_cX17_spill_188 : decode cX17_spill 188 = .ok (.aload_n 0, 1) := by decide +kernel
theorem dr_cX17_spill_189 : decode cX17_spill 189 = .ok (.aload_n 1, 1) := by decide +kernel
theorem dr_cX17_spill_190 : decode cX17_spill 190 = .ok (.aload_n 3, 1) := by decide +kernel
theorem dr_cX17_spill_191 : decode cX17_spill 191 = .ok (.iload 4, 2) := by decide +kernel
theorem dr_cX17_spill_193 : decode cX17_spill 193 = .ok (.aload_n 0, 1) := by decide +kernel
theorem dr_cX17_spill_194 : decode cX17_spill 194 = .ok (.getfield 221, 3) := by decide +kernel
theorem dr_cX17_spill_197 : decode cX17_spill 197 = .ok (.iload 6, 2) := by decide +kernel
theorem dr_cX17_spill_199 : decode cX17_spill 199 = .ok (.iaload, 1) := by decide +kernel
theorem dr_cX17_spill_200 : decode cX17_spill 200 = .ok (.invokevirtual 227, 3) := by decide +kernel
theorem dr_cX17_spill_203 : decode cX17_spill 203 = .ok (.istore 8, 2) := by decide +kernel
theorem dr_cX17_spill_205 : decode cX17_spill 205 = .ok (.iload 8, 2) := by decide +kernel
theorem dr_cX17_spill_207 : decode cX17_spill 207 = .ok (.ifCond .ge 5, 3) := by decide +kernel
theorem dr_cX17_spill_212 : decode cX17_spill 212 = .ok (.iinc 4 1, 3) := by decide +kernel
theorem dr_cX17_spill_215 : decode cX17_spill 215 = .ok (.aload 5, 2) := by decide +kernel
theorem dr_cX17_spill_217 : decode cX17_spill 217 = .ok (.iload 8, 2) := by decide +kernel
theorem dr_cX17_spill_219 : decode cX17_spill 219 = .ok (.putfield 73, 3) := by decide +kernel
theorem dr_cX17_spill_222 : decode cX17_spill 222 = .ok (.iload 7, 2) := by decide +kernel
theorem dr_cX17_spill_224 : decode cX17_spill 224 = .ok (.iload 6, 2) := by decide +kernel
theorem dr_cX17_spill_226 : decode cX17_spill 226 = .ok (.if_icmp .ne 10, 3) := by decide +kernel
theorem dr_cX17_spill_210 : decode cX17_spill 210 = .ok (.iconst 0, 1) := by decide +kernel
theorem dr_cX17_spill_211 : decode cX17_spill 211 = .ok (.ireturn, 1) := by decide +kernel
theorem dr_cX17_spill_229 : decode cX17_spill 229 = .ok (.aload 5, 2) := by decide +kernel
theorem dr_cX17_spill_231 : decode cX17_spill 231 = .ok (.iload 8, 2) := by decide +kernel
theorem dr_cX17_spill_233 : decode cX17_spill 233 = .ok (.putfield 79, 3) := by decide +kernel
theorem dr_cX17_spill_114 : decode cX17_spill 114 = .ok (.aload_n 3, 1) := by decide +kernel
theorem dr_cX17_spill_115 : decode cX17_spill 115 = .ok (.getfield 117, 3) := by decide +kernel
theorem dr_cX17_spill_118 : decode cX17_spill 118 = .ok (.iload 4, 2) := by decide +kernel
theorem dr_cX17_spill_120 : decode cX17_spill 120 = .ok (.invokevirtual 124, 3) := by decide +kernel
theorem dr_cX17_spill_123 : decode cX17_spill 123 = .ok (.checkcast 40, 3) := by decide +kernel
theorem dr_cX17_spill_126 : decode cX17_spill 126 = .ok (.goto 7, 3) := by decide +kernel
theorem dr_cX17_spill_9 : decode cX17_spill 9 = .ok (.aload_n 0, 1) := by decide +kernel
theorem dr_cX17_spill_10 : decode cX17_spill 10 = .ok (.getfield 221, 3) := by decide +kernel
theorem dr_cX17_spill_13 : decode cX17_spill 13 = .ok (.iload_n 2, 1) := by decide +kernel
theorem dr_cX17_spill_14 : decode cX17_spill 14 = .ok (.iconst (-1), 1) := by decide +kernel
theorem dr_cX17_spill_15 : decode cX17_spill 15 = .ok (.iastore, 1) := by decide +kernel
theorem dr_cX17_spill_16 : decode cX17_spill 16 = .ok (.aload_n 0, 1) := by decide +kernel
theorem dr_cX17_spill_17 : decode cX17_spill 17 = .ok (.getfield 131, 3) := by decide +kernel
theorem dr_cX17_spill_20 : decode cX17_spill 20 = .ok (.iload_n 2, 1) := by decide +kernel
theorem dr_cX17_spill_21 : decode cX17_spill 21 = .ok (.baload, 1) := by decide +kernel
theorem dr_cX17_spill_22 : decode cX17_spill 22 = .ok (.ifCond .eq 43, 3) := by decide +kernel
theorem dr_cX17_spill_65 : decode cX17_spill 65 = .ok (.iinc 2 1, 3) := by decide +kernel
theorem dr_cX17_spill_68 : decode cX17_spill 68 = .ok (.goto (-66), 3) := by decide +kernel
theorem dr_cX17_spill_25 : decode cX17_spill 25 = .ok (.aload_n 0, 1) := by decide +kernel
theorem dr_cX17_spill_26 : decode cX17_spill 26 = .ok (.getfield 212, 3) := by decide +kernel
theorem dr_cX17_spill_29 : decode cX17_spill 29 = .ok (.iload_n 2, 1) := by decide +kernel
theorem dr_cX17_spill_30 : decode cX17_spill 30 = .ok (.iaload, 1) := by decide +kernel
theorem dr_cX17_spill_31 : decode cX17_spill 31 = .ok (.ifCond .lt 6, 3) := by decide +kernel
theorem dr_cX17_spill_37 : decode cX17_spill 37 = .ok (.iload_n 2, 1) := by decide +kernel
theorem dr_cX17_spill_38 : decode cX17_spill 38 = .ok (.bipush 100, 2) := by decide +kernel
theorem dr_cX17_spill_40 : decode cX17_spill 40 = .ok (.if_icmp .lt 5, 3) := by decide +kernel
theorem dr_cX17_spill_45 : decode cX17_spill 45 = .ok (.aload_n 0, 1) := by decide +kernel
theorem dr_cX17_spill_46 : decode cX17_spill 46 = .ok (.getfield 221, 3) := by decide +kernel
theorem dr_cX17_spill_49 : decode cX17_spill 49 = .ok (.iload_n 2, 1) := by decide +kernel
theorem dr_cX17_spill_50 : decode cX17_spill 50 = .ok (.aload_n 0, 1) := by decide +kernel
theorem dr_cX17_spill_51 : decode cX17_spill 51 = .ok (.getfield 224, 3) := by decide +kernel
theorem dr_cX17_spill_54 : decode cX17_spill 54 = .ok (.iastore, 1) := by decide +kernel
theorem dr_cX17_spill_55 : decode cX17_spill 55 = .ok (.aload_n 0, 1) := by decide +kernel
theorem dr_cX17_spill_56 : decode cX17_spill 56 = .ok (.dup, 1) := by decide +kernel
theorem dr_cX17_spill_57 : decode cX17_spill 57 = .ok (.getfield 224, 3) := by decide +kernel
theorem dr_cX17_spill_60 : decode cX17_spill 60 = .ok (.iconst 1, 1) := by decide +kernel
theorem dr_cX17_spill_61 : decode cX17_spill 61 = .ok (.iadd, 1) := by decide +kernel
theorem dr_cX17_spill_62 : decode cX17_spill 62 = .ok (.putfield 224, 3) := by decide +kernel
theorem dr_cX17_spill_43 : decode cX17_spill 43 = .ok (.iconst 0, 1) := by decide +kernel
theorem dr_cX17_spill_44 : decode cX17_spill 44 = .ok (.ireturn, 1) := by decide +kernel
theorem dr_cX17_spill_34 : decode cX17_spill 34 = .ok (.goto 31, 3) := by decide +kernel
abbrev ky_572440_SpillForgeModel_spill : gKey := (cX17_spill, 10, "SpillForgeModel", (some FieldType.boolean), [], "spill", fun _ _ => True)
def pg_572440_SpillForgeModel_spill (D : va_G) (I : FieldType → ClassId) (γ0 el0 : Nat → Nat → Nat) (f : Nat) (B : Nat) (P572430 : List Nat) (F572431 : Nat → va_E) (q572432 : Nat) (q572433 : Nat) : Option Value → va_W → Nat → Nat → Prop := fun r w dc ds => ∃ (P614030 : List Nat) (F614031 : Nat → va_E) (γ el : Nat → Nat → Nat) (o614029 : Int32), r = some (.int o614029) ∧ w = va_pl P614030 F614031 ∧ rSk f [101] ([1, 3, 5, 6, 8, 9, 101] ++ npk) D I P572430 F572431 γ0 el0 P614030 F614031 γ el ∧ (18 * dc + rPh γ0 el0 f ≤ rPh γ el f ∧ ds + rPh γ0 el0 f ≤ rPh γ el f) ∧ rBd γ el f B ∧ gB o614029 0 1 ∧ γ 6 f = γ0 6 f ∧ (o614029.toInt = 0 ∨ (γ 6 f = γ0 6 f ∧ γ 18 f = γ0 18 f ∧ ((γ 7 f : Nat) : Int) = (fI (F614031 q572432) 11).toInt ∧ ((γ 16 f : Nat) : Int) + 2001 ≤ (B : Int) + (fI (F614031 q572432) 14).toInt ∧ 100 ≤ (fI (F614031 q572432) 14).toInt ∧ rNI γ el F614031 q572433 (γ 6 f) (fI (F614031 q572432) 11).toInt)) ∧ (F614031 (γ0 9 3) = F572431 (γ0 9 3)) ∧ mKp (F572431 q572432) (F614031 q572432)
set_option maxRecDepth 100000 in
set_option maxHeartbeats 20000000 in
theorem cg_572440_SpillForgeModel_spill (l : Launch) (hl0 : l.stackTraces = false) (D : va_G) (I : FieldType → ClassId) (γ0 el0 : Nat → Nat → Nat) (f : Nat) (B : Nat) (P572430 : List Nat) (F572431 : Nat → va_E) (q572432 : Nat) (q572433 : Nat) (hT0 : RS D I P572430 F572431 γ0 el0) (hzq572432 : rKd γ0 q572432 10) (hzq572433 : rKd γ0 q572433 9) (hf0 : γ0 1 q572433 = f) (hB0 : rBd γ0 el0 f B) (hBk : B ≤ 100000) (x572434 : 0 < γ0 6 f) (x572435 : ((γ0 7 f : Nat) : Int) = (fI (F572431 q572432) 11).toInt) (x572436 : ((γ0 16 f : Nat) : Int) + 2001 ≤ (B : Int) + (fI (F572431 q572432) 14).toInt) (x572437 : (fI (F572431 q572432) 11).toInt + (rcn (cB (F572431 (γ0 9 3))) 100 : Nat) ≤ 100) (x572438 : rPl γ0 el0 F572431 q572433 (γ0 6 f) (fun _ _ => rNx (rSd (cB (F572431 (γ0 9 3)))))) (x572439 : 100 ≤ (fI (F572431 q572432) 14).toInt) : CtA (gV D I) l yX17_spill cX17_spill 10 (some FieldType.boolean) 9 195 (((387 * B + 6000) - rPh γ0 el0 f) / 18) ((387 * B + 6000) - rPh γ0 el0 f) [.ref q572432, .ref q572433] (va_pl P572430 F572431) (pg_572440_SpillForgeModel_spill D I γ0 el0 f B P572430 F572431 q572432 q572433) gNA := by
  refine CtA_of hl0 (by decide) (Nat.le_of_ble_eq_true rfl) ?_
  obtain ⟨γ, hγ0⟩ : ∃ z, z = γ0 := ⟨_, rfl⟩
  obtain ⟨el, hel0⟩ : ∃ z, z = el0 := ⟨_, rfl⟩
  have hT : RS D I P572430 F572431 γ el := by rw [hγ0, hel0]; exact hT0
  have hst : rSk f [101] ([1, 3, 5, 6, 8, 9, 101] ++ npk) D I P572430 F572431 γ0 el0 P572430 F572431 γ el := by rw [hγ0, hel0]; exact rSk_rf hT0
  have hph : rPh γ0 el0 f ≤ rPh γ el f := by rw [hγ0, hel0]; exact Nat.le_refl _
  have hB : rBd γ el f B := by rw [hγ0, hel0]; exact hB0
  have htq572432 : rKd γ q572432 10 := by rw [hγ0]; exact hzq572432
  have htq572433 : rKd γ q572433 9 := by rw [hγ0]; exact hzq572433
  have hf1 : γ 1 q572433 = f := by rw [hγ0]; exact hf0
  have x572434n : 0 < γ 6 f := by rw [hγ0]; exact x572434
  have x572435n : ((γ 7 f : Nat) : Int) = (fI (F572431 q572432) 11).toInt := by rw [hγ0]; exact x572435
  have x572436n : ((γ 16 f : Nat) : Int) + 2001 ≤ (B : Int) + (fI (F572431 q572432) 14).toInt := by rw [hγ0]; exact x572436
  have x572437n : (fI (F572431 q572432) 11).toInt + (rcn (cB (F572431 (γ 9 3))) 100 : Nat) ≤ 100 := by rw [hγ0]; exact x572437
  have x572438n : rPl γ el F572431 q572433 (γ 6 f) (fun _ _ => rNx (rSd (cB (F572431 (γ 9 3))))) := by rw [hγ0, hel0]; exact x572438
  have pk572441 : rPh γ el f ≤ 387 * B + 6000 := rm_pk (rM_ge hT htq572433 hf1).1 (rM_bd hB)
  refine G_widen (cs' := ((rPh γ el f - rPh γ0 el0 f) / 18)) (sl' := (rPh γ el f - rPh γ0 el0 f)) (Nat.zero_le _) (Nat.zero_le _) ?_
  have lz0 : Int32.toInt 0 = 0 := by decide
  have r572442 : γ 6 f = γ0 6 f := by rw [hγ0]
  have r572443 : γ 7 f = γ0 7 f := by rw [hγ0]
  have r572444 : γ 16 f = γ0 16 f := by rw [hγ0]
  have r572445 : γ 18 f = γ0 18 f := by rw [hγ0]
  have r572446 : γ 19 f = γ0 19 f := by rw [hγ0]
  have hm572447 : q572432 ∈ P572430 := RS_m hT htq572432 (by decide)
  refine rk10_e (show rk_10 γ (F572431 q572432) from RS_o hT htq572432) (fun q572449 q572450 p572451 p572452 p572453 p572454 p572455 p572456 p572457 p572458 p572459 p572460 p572461 p572462 p572463 p572464 p572465 he572448 hB572492 ht572466 ht572467 ht572468 ht572469 ht572470 ht572471 ht572472 ht572473 ht572474 ht572475 ht572476 ht572477 ht572478 ht572479 ht572480 ht572481 ht572482 ht572483 ht572484 ht572485 ht572486 ht572487 ht572488 ht572489 hB572493 => ?_)
  have ac0_11 : (fI (F572431 q572432) 11).toInt = p572453.toInt := by rw [he572448]; rfl
  have ac0_14 : (fI (F572431 q572432) 14).toInt = p572456.toInt := by rw [he572448]; rfl
  have bp572453 : gB p572453 0 100 := (hB572492.2.2.1)
  have bp572456 : gB p572456 0 2000 := (hB572492.2.2.2.1)
  have k0_3 : rKd γ0 (γ0 9 3) 14 := by rw [← hγ0]; exact ht572471
  have k0_17 : rKd γ0 (γ0 9 17) 20 := by rw [← hγ0]; exact ht572479
  have k0_19 : rKd γ0 (γ0 9 19) 21 := by rw [← hγ0]; exact ht572481
  refine G_iconst 0 dr_cX17_spill_0 (by decide +kernel) ?_
  refine G_istore_n (L' := [(2, .int 0), (0, .ref q572432), (1, .ref q572433)]) dr_cX17_spill_1 (Nat.le_of_ble_eq_true rfl) rfl ?_
  have hlp2_607313 : ∀ (n2_607313 : Nat) (P607299 : List Nat) (F607300 : Nat → va_E) (γ el : Nat → Nat → Nat) (g607298 : Int32), gB g607298 0 2000 → RS D I P607299 F607300 γ el → rSk f [101] ([1, 3, 5, 6, 8, 9, 101] ++ npk) D I P572430 F572431 γ0 el0 P607299 F607300 γ el → rPh γ0 el0 f ≤ rPh γ el f → rBd γ el f B → γ 6 f = γ0 6 f → γ 7 f = γ0 7 f → γ 16 f = γ0 16 f → γ 18 f = γ0 18 f → (fI (F607300 q572432) 14).toInt = (fI (F572431 q572432) 14).toInt → spI (cB (F572431 (γ0 9 3))) (cB (F607300 (γ0 9 19))) (g607298.toInt : Int).toNat (fI (F572431 q572432) 11).toInt (fI (F607300 q572432) 11).toInt → rPl γ el F607300 q572433 (γ 6 f) (fun _ _ => rNx (rSd (cB (F572431 (γ0 9 3))))) → (F607300 (γ0 9 3) = F572431 (γ0 9 3)) → mKp (F572431 q572432) (F607300 q572432) → ((2001 : Int) - g607298.toInt).toNat < n2_607313 → G (gV D I) l (gRm 9 195 (((387 * B + 6000) - rPh γ0 el0 f) / 18) ((387 * B + 6000) - rPh γ0 el0 f)) (gMA (gV D I) (pg_572440_SpillForgeModel_spill D I γ0 el0 f B P572430 F572431 q572432 q572433) gNA (((387 * B + 6000) - rPh γ0 el0 f) / 18) ((387 * B + 6000) - rPh γ0 el0 f)) ky_572440_SpillForgeModel_spill 2 [(2, .int g607298), (0, .ref q572432), (1, .ref q572433)] [] (va_pl P607299 F607300) ((rPh γ el f - rPh γ0 el0 f) / 18) (rPh γ el f - rPh γ0 el0 f) := by
    intro n2_607313
    induction n2_607313 with
    | zero => intro P607299 F607300 γ el g607298 bg607298 hT607301 hs607302 hph607303 hB607304 x607305 x607306 x607307 x607308 x607309 x607310 x607311 x607312 x607313 hm2_607313; exact absurd hm2_607313 (Nat.not_lt_zero _)
    | succ n2_607313 ih2_607313 =>
      intro P607299 F607300 γ el g607298 bg607298 hT607301 hs607302 hph607303 hB607304 x607305 x607306 x607307 x607308 x607309 x607310 x607311 x607312 x607313 hm2_607313
      clear r572442 r572443 r572444 r572445 r572446
      have ht607315 : rKd γ q572432 10 := rSk_k hs607302 hzq572432 (by decide) (by decide)
      have ht607316 : rKd γ q572433 9 := rSk_k hs607302 hzq572433 (by decide) (by decide)
      have hf607317 : γ 1 q572433 = f := rSk_1 hs607302 hzq572433 (by decide) hf0
      have pk607318 : rPh γ el f ≤ 387 * B + 6000 := rm_pk (rM_ge hT607301 ht607316 hf607317).1 (rM_bd hB607304)
      have hm607319 : q572432 ∈ P607299 := RS_m hT607301 ht607315 (by decide)
      refine rk10_e (show rk_10 γ (F607300 q572432) from RS_o hT607301 ht607315) (fun q607321 q607322 p607323 p607324 p607325 p607326 p607327 p607328 p607329 p607330 p607331 p607332 p607333 p607334 p607335 p607336 p607337 he607320 hB607364 ht607338 ht607339 ht607340 ht607341 ht607342 ht607343 ht607344 ht607345 ht607346 ht607347 ht607348 ht607349 ht607350 ht607351 ht607352 ht607353 ht607354 ht607355 ht607356 ht607357 ht607358 ht607359 ht607360 ht607361 hB607365 => ?_)
      have ac607366 : (fI (F607300 q572432) 11).toInt = p607325.toInt := by rw [he607320]; rfl
      have bp607325 : gB p607325 0 100 := (hB607364.2.2.1)
      have ac607367 : (fI (F607300 q572432) 14).toInt = p607328.toInt := by rw [he607320]; rfl
      have bp607328 : gB p607328 0 2000 := (hB607364.2.2.2.1)
      have r607368 : 0 < γ 6 (γ 1 q572433) := by rw [hf607317]; omega
      have hm607369 : (γ 9 3) ∈ P607299 := RS_m hT607301 ht607343 (by decide)
      obtain ⟨f607371, he607370, bf607371⟩ := show rk_14 I (F607300 (γ 9 3)) from RS_o hT607301 ht607343
      have c9_607372 : cB (F572431 (γ0 9 3)) = f607371 := by rw [← x607312, ← congrFun (rSk_9 hs607302) 3]; exact cB_of he607370
      have hm607373 : (γ 9 19) ∈ P607299 := RS_m hT607301 ht607353 (by decide)
      obtain ⟨f607375, he607374, bf607375⟩ := show rk_21 I (F607300 (γ 9 19)) from RS_o hT607301 ht607353
      have c9_607376 : cB (F607300 (γ0 9 19)) = f607375 := by rw [← congrFun (rSk_9 hs607302) 19]; exact cB_of he607374
      have hm607377 : (γ 9 17) ∈ P607299 := RS_m hT607301 ht607351 (by decide)
      obtain ⟨f607379, he607378, bf607379⟩ := show rk_20 I (F607300 (γ 9 17)) from RS_o hT607301 ht607351
      have cq607380 := x607310
      rw [c9_607372, c9_607376, ac607366] at cq607380
      refine G_iload_n 0 dr_cX17_spill_2 rfl ?_
      refine G_sipush 2000 dr_cX17_spill_3 (by decide +kernel) ?_
      refine G_icmp_ge 71 dr_cX17_spill_6 (by decide +kernel) (fun hc607381 => ?_) (fun hc607381 => ?_)
      · have r607382 : 2000 ≤ g607298.toInt := gj_leL hc607381 (show Int32.toInt 2000 = 2000 by decide)
        have bg607298' : gB g607298 2000 2000 := ⟨by omega, by omega⟩
        have ac607383 : (fI (F607300 q572432) 11).toInt = p607325.toInt := by rw [he607320]; rfl
        have ac607384 : (fI (F607300 q572432) 14).toInt = p607328.toInt := by rw [he607320]; rfl
        have spi607385 := x607310
        rw [show (g607298.toInt : Int).toNat = 2000 by omega] at spi607385
        have r607386 := cq607380.1
        have hv607387 := St_slots (f := f) (n := p607325.toInt.toNat) hT607301 ht607316 hf607317 (by omega)
        obtain ⟨γ, hg607388⟩ : ∃ z, z = gVal γ 7 f p607325.toInt.toNat := ⟨_, rfl⟩
        rw [← hg607388] at hv607387
        have hk607389 := rSk_of hv607387.1
        have r607390 := hv607387.2.1
        have hT607391 := hk607389.1
        have hs607392 := rSk_tr hs607302 hk607389 (by decide) (by decide) (by decide)
        have kp607393 : F607300 (γ0 9 3) = F572431 (γ0 9 3) := (rSk_F hk607389 (rSk_k hs607302 k0_3 (by decide) (by decide)) (by decide) (by decide)).trans x607312
        have kp607394 : F607300 (γ0 9 19) = F607300 (γ0 9 19) := rSk_F hk607389 (rSk_k hs607302 k0_19 (by decide) (by decide)) (by decide) (by decide)
        have r607395 := rSk_F hk607389 ht607315 (by decide) (by decide)
        have ht607396 : rKd γ q572432 10 := rSk_k hk607389 ht607315 (by decide) (by decide)
        have ht607397 : rKd γ q572433 9 := rSk_k hk607389 ht607316 (by decide) (by decide)
        have hf607398 : γ 1 q572433 = f := rSk_1 hk607389 ht607316 (by decide) hf607317
        have mk607399 : mKp (F572431 q572432) (F607300 q572432) := mKp_tr x607313 (mKp_eq (rSk_F hk607389 ht607315 (by decide) (by decide)))
        have hm607400 : q572432 ∈ P607299 := RS_m hT607391 ht607396 (by decide)
        refine rk10_e (show rk_10 γ (F607300 q572432) from RS_o hT607391 ht607396) (fun q607402 q607403 p607404 p607405 p607406 p607407 p607408 p607409 p607410 p607411 p607412 p607413 p607414 p607415 p607416 p607417 p607418 he607401 hB607445 ht607419 ht607420 ht607421 ht607422 ht607423 ht607424 ht607425 ht607426 ht607427 ht607428 ht607429 ht607430 ht607431 ht607432 ht607433 ht607434 ht607435 ht607436 ht607437 ht607438 ht607439 ht607440 ht607441 ht607442 hB607446 => ?_)
        have r607447 : p607406.toInt = p607325.toInt := by have z : p607406 = p607325 := congrArg (fun e => fI e 11) (he607401.symm.trans (r607395.trans he607320)); rw [z]
        have bp607406 : gB p607406 0 100 := (hB607445.2.2.1)
        have r607448 : p607409.toInt = p607328.toInt := by have z : p607409 = p607328 := congrArg (fun e => fI e 14) (he607401.symm.trans (r607395.trans he607320)); rw [z]
        have bp607409 : gB p607409 0 2000 := (hB607445.2.2.2.1)
        have hB607449 : rBd γ el f B := hv607387.2.2.2 B hB607304
        have hph607450 : rPh γ0 el0 f ≤ rPh γ el f := by rw [r607390]; exact hph607303
        have pk607451 : rPh γ el f ≤ 387 * B + 6000 := rm_pk (rM_ge hT607391 ht607397 hf607398).1 (rM_bd hB607449)
        refine G_widen (cs' := ((rPh γ el f - rPh γ0 el0 f) / 18)) (sl' := (rPh γ el f - rPh γ0 el0 f)) (rm_ec r607390) (rm_es r607390) ?_
        have r607452 := gVal_7 hg607388
        have pl607453 := sp_0 (h := cB (F607300 (γ0 9 19))) (rPl_val hT607301 ht607316 hf607317 hk607389 hg607388 x607311)
        have r607454 : 0 < γ 6 (γ 1 q572433) := by rw [hf607398]; omega
        have ac607455 : (fI (F607300 q572432) 11).toInt = p607406.toInt := by rw [he607401]; rfl
        have ac607456 : (fI (F607300 q572432) 14).toInt = p607409.toInt := by rw [he607401]; rfl
        refine G_iconst 0 dr_cX17_spill_71 (by decide +kernel) ?_
        refine G_istore_n (L' := [(2, .int 0), (0, .ref q572432), (1, .ref q572433)]) dr_cX17_spill_72 (Nat.le_of_ble_eq_true rfl) rfl ?_
        have hlp73_610567 : ∀ (n73_610567 : Nat) (P610552 : List Nat) (F610553 : Nat → va_E) (γ el : Nat → Nat → Nat) (g610551 : Int32), gB g610551 0 1000000 → RS D I P610552 F610553 γ el → rSk f [101] ([1, 3, 5, 6, 8, 9, 101] ++ npk) D I P572430 F572431 γ0 el0 P610552 F610553 γ el → rPh γ0 el0 f ≤ rPh γ el f → rBd γ el f B → γ 6 f = γ0 6 f → γ 18 f = γ0 18 f → ((γ 7 f : Nat) : Int) = (fI (F610553 q572432) 11).toInt → (fI (F610553 q572432) 11).toInt = (fI (F607300 q572432) 11).toInt → ((γ 16 f : Nat) : Int) + 2001 ≤ (B : Int) + (fI (F610553 q572432) 14).toInt → 100 ≤ (fI (F610553 q572432) 14).toInt → (F610553 (γ0 9 19) = F607300 (γ0 9 19)) → rPl γ el F610553 q572433 (γ 6 f) (spQ (cB (F572431 (γ0 9 3))) (cB (F607300 (γ0 9 19))) (g610551.toInt : Int).toNat 0) → (F610553 (γ0 9 3) = F572431 (γ0 9 3)) → mKp (F572431 q572432) (F610553 q572432) → ((1000001 : Int) - g610551.toInt).toNat < n73_610567 → G (gV D I) l (gRm 9 195 (((387 * B + 6000) - rPh γ0 el0 f) / 18) ((387 * B + 6000) - rPh γ0 el0 f)) (gMA (gV D I) (pg_572440_SpillForgeModel_spill D I γ0 el0 f B P572430 F572431 q572432 q572433) gNA (((387 * B + 6000) - rPh γ0 el0 f) / 18) ((387 * B + 6000) - rPh γ0 el0 f)) ky_572440_SpillForgeModel_spill 73 [(2, .int g610551), (0, .ref q572432), (1, .ref q572433)] [] (va_pl P610552 F610553) ((rPh γ el f - rPh γ0 el0 f) / 18) (rPh γ el f - rPh γ0 el0 f) := by
          intro n73_610567
          induction n73_610567 with
          | zero => intro P610552 F610553 γ el g610551 bg610551 hT610554 hs610555 hph610556 hB610557 x610558 x610559 x610560 x610561 x610562 x610563 x610564 x610565 x610566 x610567 hm73_610567; exact absurd hm73_610567 (Nat.not_lt_zero _)
          | succ n73_610567 ih73_610567 =>
            intro P610552 F610553 γ el g610551 bg610551 hT610554 hs610555 hph610556 hB610557 x610558 x610559 x610560 x610561 x610562 x610563 x610564 x610565 x610566 x610567 hm73_610567
            clear r607386 r607390 r607395 r607447 r607448 hph607450 pk607451 r607452 r607454
            have ht610569 : rKd γ q572432 10 := rSk_k hs610555 hzq572432 (by decide) (by decide)
            have ht610570 : rKd γ q572433 9 := rSk_k hs610555 hzq572433 (by decide) (by decide)
            have hf610571 : γ 1 q572433 = f := rSk_1 hs610555 hzq572433 (by decide) hf0
            have pk610572 : rPh γ el f ≤ 387 * B + 6000 := rm_pk (rM_ge hT610554 ht610570 hf610571).1 (rM_bd hB610557)
            have r610573 : 0 < γ 6 (γ 1 q572433) := by rw [hf610571]; omega
            have hm610574 : q572432 ∈ P610552 := RS_m hT610554 ht610569 (by decide)
            refine rk10_e (show rk_10 γ (F610553 q572432) from RS_o hT610554 ht610569) (fun q610576 q610577 p610578 p610579 p610580 p610581 p610582 p610583 p610584 p610585 p610586 p610587 p610588 p610589 p610590 p610591 p610592 he610575 hB610619 ht610593 ht610594 ht610595 ht610596 ht610597 ht610598 ht610599 ht610600 ht610601 ht610602 ht610603 ht610604 ht610605 ht610606 ht610607 ht610608 ht610609 ht610610 ht610611 ht610612 ht610613 ht610614 ht610615 ht610616 hB610620 => ?_)
            have ac610621 : (fI (F610553 q572432) 11).toInt = p610580.toInt := by rw [he610575]; rfl
            have bp610580 : gB p610580 0 100 := (hB610619.2.2.1)
            have ac610622 : (fI (F610553 q572432) 14).toInt = p610583.toInt := by rw [he610575]; rfl
            have bp610583 : gB p610583 0 2000 := (hB610619.2.2.2.1)
            refine G_iload_n 0 dr_cX17_spill_73 rfl ?_
            refine G_aload_n 2 dr_cX17_spill_74 rfl ?_
            have hm610623 : q572433 ∈ P610552 := RS_m hT610554 ht610570 (by decide)
            obtain ⟨q610625, q610626, p610627, p610628, he610624, ht610644, ht610629, ht610630, ht610631, ht610632, r610633, r610634, r610635, r610636, r610637, r610638, r610639, r610640, r610641, r610642, r610643⟩ := show rk_9 γ el q572433 (F610553 q572433) from RS_o hT610554 ht610570
            have bp610627 : gB p610627 0 1000000 := ⟨by omega, by omega⟩
            have bp610628 : gB p610628 0 1000000 := ⟨by omega, by omega⟩
            have hf610645 : γ 1 q610625 = f := (show γ 1 q610625 = γ 1 q572433 from ht610630).trans hf610571
            have hf610646 : γ 1 q610626 = f := (show γ 1 q610626 = γ 1 q572433 from ht610632).trans hf610571
            have r610647 : γ 6 (γ 1 q572433) = γ 6 f := by rw [hf610571]
            have r610648 : γ 16 (γ 1 q572433) = γ 16 f := by rw [hf610571]
            have r610649 : p610628.toInt = γ 6 f ∧ p610628.toInt ≤ 40 := by omega
            clear r610639
            refine Gw_callV (As := []) (gV_ok D I) (cp_12496_Code_size l hl0 D I P610552 F610553 q572433 q610625 q610626 p610627 p610628 hm610623 he610624) dr_cX17_spill_75 ⟨wr_10_156, wr_1_15, wr_9_127, by decide, rfl, (Nat.le_of_ble_eq_true rfl), (Nat.le_of_ble_eq_true rfl)⟩ wr_9_125 wr_9_126 hm610623 he610624 rfl (rm_zc pk610572) (rm_zs pk610572) (Nat.le_of_ble_eq_true rfl) (fun r610653 w610654 dc610650 ds610651 hp610652 => ?_) (fun _ _ _ _ _ z => z.elim)
            obtain ⟨rfl, rfl, hdc, hds⟩ := hp610652
            change G _ _ _ _ _ _ _ (.int p610628 :: _) _ _ _
            refine G_widen (cs' := ((rPh γ el f - rPh γ0 el0 f) / 18)) (sl' := (rPh γ el f - rPh γ0 el0 f)) (rm_d0 hdc) (rm_d0 hds) ?_
            refine G_icmp_ge 431 dr_cX17_spill_78 (by decide +kernel) (fun hc610655 => ?_) (fun hc610655 => ?_)
            · have r610656 : p610628.toInt ≤ g610551.toInt := gC_le hc610655
              have ac610657 : (fI (F610553 q572432) 11).toInt = p610580.toInt := by rw [he610575]; rfl
              have ac610658 : (fI (F610553 q572432) 14).toInt = p610583.toInt := by rw [he610575]; rfl
              have ni610659 : rNI γ el F610553 q572433 (γ 6 f) (fI (F610553 q572432) 11).toInt := by rw [show (fI (F610553 q572432) 11).toInt = (fI (F607300 q572432) 11).toInt by omega]; exact spI_e rfl spi607385 x572437 (sp_end x610565 (by omega))
              refine G_aload_n 2 dr_cX17_spill_431 rfl ?_
              refine Gw_callV (As := []) (gV_ok D I) (ct_7646_Code_countRows l hl0 D I γ el P610552 F610553 q572433 hT610554 ht610570 (by omega)) dr_cX17_spill_432 ⟨wr_10_225, wr_1_15, wr_10_228, by decide, rfl, (Nat.le_of_ble_eq_true rfl), (Nat.le_of_ble_eq_true rfl)⟩ wr_10_226 wr_10_227 hm610623 he610624 rfl (rm_zc pk610572) (rm_zs pk610572) (Nat.le_of_ble_eq_true rfl) (fun r610663 w610664 dc610660 ds610661 hp610662 => ?_) (fun _ _ _ _ _ z => z.elim)
              obtain ⟨o610665, rfl, rfl, hdc, hds⟩ := hp610662
              have bo610665 := gB_any o610665
              change G _ _ _ _ _ _ _ (.int o610665 :: _) _ _ _
              refine G_widen (cs' := ((rPh γ el f - rPh γ0 el0 f) / 18)) (sl' := (rPh γ el f - rPh γ0 el0 f)) (rm_d0 hdc) (rm_d0 hds) ?_
              refine G_sipush 4000 dr_cX17_spill_435 (by decide +kernel) ?_
              refine G_icmp_gt 445 dr_cX17_spill_438 (by decide +kernel) (fun hc610666 => ?_) (fun hc610666 => ?_)
              · have r610667 : 4000 < o610665.toInt := gj_ltL hc610666 (show Int32.toInt 4000 = 4000 by decide)
                have bo610665' : gB o610665 4001 2147483647 := ⟨by omega, by omega⟩
                refine G_iconst 0 dr_cX17_spill_445 (by decide +kernel) ?_
                exact G_zretA FieldType.boolean dr_cX17_spill_446 rfl rfl (rm_zc pk610572) (rm_zs pk610572) ⟨P610552, F610553, γ, el, 0, rfl, rfl, hs610555, (rm_pp hph610556), hB610557, (gB_w (gBl (show Int32.toInt 0 = 0 by decide)) (by decide) (by decide)), (by have qa0 : Int32.toInt 0 = 0 := (by decide); omega), (Or.inl (by decide)), x610566, x610567⟩
              · have r610668 : o610665.toInt ≤ 4000 := gj_nltL hc610666 (show Int32.toInt 4000 = 4000 by decide)
                have bo610665' : gB o610665 (-2147483648) 4000 := ⟨by omega, by omega⟩
                refine G_iconst 1 dr_cX17_spill_441 (by decide +kernel) ?_
                refine G_goto 446 dr_cX17_spill_442 (by decide +kernel) ?_
                exact G_zretA FieldType.boolean dr_cX17_spill_446 rfl rfl (rm_zc pk610572) (rm_zs pk610572) ⟨P610552, F610553, γ, el, 1, rfl, rfl, hs610555, (rm_pp hph610556), hB610557, (gB_w (gBl (show Int32.toInt 1 = 1 by decide)) (by decide) (by decide)), (by have qa0 : Int32.toInt 1 = 1 := (by decide); omega), (Or.inr ⟨by omega, by omega, by omega, by omega, by omega, ni610659⟩), x610566, x610567⟩
            · have r610669 : g610551.toInt < p610628.toInt := gC_nle hc610655
              have bg610551' : gB g610551 0 999999 := ⟨by omega, by omega⟩
              have bp610628' : gB p610628 1 1000000 := ⟨by omega, by omega⟩
              refine G_aload_n 2 dr_cX17_spill_81 rfl ?_
              refine G_iload_n 0 dr_cX17_spill_82 rfl ?_
              have hm610670 : q610625 ∈ P610552 := RS_m hT610554 ht610629 (by decide)
              obtain ⟨⟨p610672, p610673, q610674, he610671, r610675, r610676, r610677, r610679⟩, r610678⟩ := show rk_4 D I γ el F610553 q610625 from RS_o hT610554 ht610629
              have bp610672 := gB_any p610672
              have bp610673 : gB p610673 0 1000000 := ⟨by omega, by omega⟩
              obtain ⟨r610680, r610681, n610688, f610689, r610682, r610683, r610684, r610685, r610686, r610687⟩ := rLC_n r610677 (by omega)
              have hm610690 : q610674 ∈ P610552 := RS_m hT610554 r610680 (by decide)
              obtain ⟨q610691, hx610692⟩ : ∃ x, x = el q610625 g610551.toInt.toNat := ⟨_, rfl⟩
              have hx610693 : f610689 g610551.toNatClampNeg = some q610691 := (r610686 _ (show g610551.toInt.toNat < γ 2 q610625 by first | assumption | omega)).trans (by rw [hx610692])
              have ht610696 : rKd γ q610691 2 := by rw [hx610692]; exact (r610640 _ (by omega)).resolve_right (fun z => absurd z.1 (by omega))
              have ht610697 : rFm γ q610691 q610625 := by rw [hx610692]; exact (r610678 _ (show g610551.toInt.toNat < γ 2 q610625 by omega)).2.1
              have hm610698 : q610691 ∈ P610552 := RS_m hT610554 ht610696 (by decide)
              obtain ⟨q610700, q610701, p610702, p610703, he610699, ht610710, ht610704, ht610705, ht610706, ht610707, ht610708, bp610702, bp610703, r610709, r610711, r610712⟩ := show rk_2 γ q610691 (F610553 q610691) from RS_o hT610554 ht610696
              refine Gw_callV (As := [.int g610551]) (gV_ok D I) (cp_7737_Code_get l hl0 D I P610552 F610553 q572433 q610625 q610674 g610551 q610626 p610627 p610628 p610672 p610673 f610689 n610688 q610691 q610700 q610701 p610702 p610703 hm610623 hm610670 hm610690 hm610698 he610624 he610671 r610682 he610699 (gB_w bg610551' (by decide) (by decide)) (gB_w bp610673 (by decide) (by decide)) (by omega) (by omega) (by assumption) (by omega)) dr_cX17_spill_83 ⟨wr_10_157, wr_1_15, wr_10_137, by decide, rfl, (Nat.le_of_ble_eq_true rfl), (Nat.le_of_ble_eq_true rfl)⟩ wr_10_135 wr_10_136 hm610623 he610624 rfl (rm_zc pk610572) (rm_zs pk610572) (Nat.le_of_ble_eq_true rfl) (fun r610716 w610717 dc610713 ds610714 hp610715 => ?_) (fun _ _ _ _ _ z => z.elim)
              obtain ⟨rfl, rfl, hdc, hds⟩ := hp610715
              change G _ _ _ _ _ _ _ (.ref q610691 :: _) _ _ _
              refine G_widen (cs' := ((rPh γ el f - rPh γ0 el0 f) / 18)) (sl' := (rPh γ el f - rPh γ0 el0 f)) (rm_d0 hdc) (rm_d0 hds) ?_
              have hf610718 : γ 1 q610691 = f := (show γ 1 q610691 = γ 1 q610625 from ht610697).trans ((show γ 1 q610625 = γ 1 q572433 from ht610630).trans hf610571)
              have hf610719 : γ 1 q610700 = f := (show γ 1 q610700 = γ 1 q610691 from ht610705).trans hf610718
              have hf610720 : γ 1 q610701 = f := (show γ 1 q610701 = γ 1 q610691 from ht610707).trans hf610718
              have r610721 : γ 6 (γ 1 q610691) = γ 6 f := by rw [hf610718]
              have r610722 : γ 7 (γ 1 q610691) = γ 7 f := by rw [hf610718]
              have r610723 : γ 19 (γ 1 q610691) = γ 19 f := by rw [hf610718]
              have r610724 := r610709.resolve_left (by omega)
              clear r610709
              have r610725 : γ 2 (γ 14 q610691) = γ 2 q610700 := by rw [ht610710.1]
              have r610726 : g610551.toInt.toNat < γ 2 (γ 14 q572433) := by rw [ht610644.1]; omega
              have r610727 : el (γ 14 q572433) g610551.toInt.toNat = q610691 := by rw [ht610644.1, hx610692]
              refine G_astore_n (L' := [(3, .ref q610691), (2, .int g610551), (0, .ref q572432), (1, .ref q572433)]) dr_cX17_spill_86 (Nat.le_of_ble_eq_true rfl) rfl ?_
              refine G_iconst 0 dr_cX17_spill_87 (by decide +kernel) ?_
              refine G_istore (L' := [(4, .int 0), (3, .ref q610691), (2, .int g610551), (0, .ref q572432), (1, .ref q572433)]) dr_cX17_spill_88 (Nat.le_of_ble_eq_true rfl) rfl ?_
              have hlp90_612208 : ∀ (n90_612208 : Nat) (P612187 : List Nat) (F612188 : Nat → va_E) (γ el : Nat → Nat → Nat) (g612186 : Int32), gB g612186 0 1000003 → RS D I P612187 F612188 γ el → rSk f [101] ([1, 3, 5, 6, 8, 9, 101] ++ npk) D I P572430 F572431 γ0 el0 P612187 F612188 γ el → rPh γ0 el0 f ≤ rPh γ el f → rBd γ el f B → rKd γ q610691 2 → γ 1 q610691 = f → g610551.toInt.toNat < γ 2 (γ 14 q572433) → el (γ 14 q572433) g610551.toInt.toNat = q610691 → γ 6 f = γ0 6 f → γ 18 f = γ0 18 f → ((γ 7 f : Nat) : Int) = (fI (F612188 q572432) 11).toInt → (fI (F612188 q572432) 11).toInt = (fI (F607300 q572432) 11).toInt → ((γ 16 f : Nat) : Int) + 2001 ≤ (B : Int) + (fI (F612188 q572432) 14).toInt → 100 ≤ (fI (F612188 q572432) 14).toInt → (F612188 (γ0 9 19) = F607300 (γ0 9 19)) → rPl γ el F612188 q572433 (γ 6 f) (spQ (cB (F572431 (γ0 9 3))) (cB (F607300 (γ0 9 19))) (g610551.toInt : Int).toNat (g612186.toInt : Int).toNat) → (g612186.toInt : Int) ≤ γ 2 (γ 14 q610691) + 1 → (g610551.toInt : Int) < γ 6 f → (F612188 (γ0 9 3) = F572431 (γ0 9 3)) → mKp (F572431 q572432) (F612188 q572432) → (γ 2 (γ 14 q610691) + 1 - (g612186.toInt : Int).toNat) < n90_612208 → G (gV D I) l (gRm 9 195 (((387 * B + 6000) - rPh γ0 el0 f) / 18) ((387 * B + 6000) - rPh γ0 el0 f)) (gMA (gV D I) (pg_572440_SpillForgeModel_spill D I γ0 el0 f B P572430 F572431 q572432 q572433) gNA (((387 * B + 6000) - rPh γ0 el0 f) / 18) ((387 * B + 6000) - rPh γ0 el0 f)) ky_572440_SpillForgeModel_spill 90 [(4, .int g612186), (3, .ref q610691), (2, .int g610551), (0, .ref q572432), (1, .ref q572433)] [] (va_pl P612187 F612188) ((rPh γ el f - rPh γ0 el0 f) / 18) (rPh γ el f - rPh γ0 el0 f) := by
                intro n90_612208
                induction n90_612208 with
                | zero => intro P612187 F612188 γ el g612186 bg612186 hT612189 hs612190 hph612191 hB612192 ht612193 hf612194 r612195 r612196 x612197 x612198 x612199 x612200 x612201 x612202 x612203 x612204 x612205 x612206 x612207 x612208 hm90_612208; exact absurd hm90_612208 (Nat.not_lt_zero _)
                | succ n90_612208 ih90_612208 =>
                  intro P612187 F612188 γ el g612186 bg612186 hT612189 hs612190 hph612191 hB612192 ht612193 hf612194 r612195 r612196 x612197 x612198 x612199 x612200 x612201 x612202 x612203 x612204 x612205 x612206 x612207 x612208 hm90_612208
                  clear r610633 r610634 r610635 r610636 r610637 r610638 r610640 r610641 r610642 r610643 bp610627 bp610628 bp610702 bp610703 r610711 r610712 r610647 r610648 r610649 r610675 r610676 r610677 r610679 r610678 r610680 r610681 r610682 r610683 r610684 r610685 r610686 r610687 r610721 r610722 r610723 r610724 r610725 r610726 r610727
                  have ht612210 : rKd γ q572432 10 := rSk_k hs612190 hzq572432 (by decide) (by decide)
                  have ht612211 : rKd γ q572433 9 := rSk_k hs612190 hzq572433 (by decide) (by decide)
                  have hf612212 : γ 1 q572433 = f := rSk_1 hs612190 hzq572433 (by decide) hf0
                  have pk612213 : rPh γ el f ≤ 387 * B + 6000 := rm_pk (rM_ge hT612189 ht612211 hf612212).1 (rM_bd hB612192)
                  have r612214 : 0 < γ 6 (γ 1 q572433) := by rw [hf612212]; omega
                  have hm612215 : q572432 ∈ P612187 := RS_m hT612189 ht612210 (by decide)
                  refine rk10_e (show rk_10 γ (F612188 q572432) from RS_o hT612189 ht612210) (fun q612217 q612218 p612219 p612220 p612221 p612222 p612223 p612224 p612225 p612226 p612227 p612228 p612229 p612230 p612231 p612232 p612233 he612216 hB612260 ht612234 ht612235 ht612236 ht612237 ht612238 ht612239 ht612240 ht612241 ht612242 ht612243 ht612244 ht612245 ht612246 ht612247 ht612248 ht612249 ht612250 ht612251 ht612252 ht612253 ht612254 ht612255 ht612256 ht612257 hB612261 => ?_)
                  have ac612262 : (fI (F612188 q572432) 11).toInt = p612221.toInt := by rw [he612216]; rfl
                  have bp612221 : gB p612221 0 100 := (hB612260.2.2.1)
                  have ac612263 : (fI (F612188 q572432) 14).toInt = p612224.toInt := by rw [he612216]; rfl
                  have bp612224 : gB p612224 0 2000 := (hB612260.2.2.2.1)
                  refine G_iload 0 dr_cX17_spill_90 rfl ?_
                  refine G_aload_n 1 dr_cX17_spill_92 rfl ?_
                  have hm612264 : q610691 ∈ P612187 := RS_m hT612189 ht612193 (by decide)
                  obtain ⟨q612266, q612267, p612268, p612269, he612265, ht612276, ht612270, ht612271, ht612272, ht612273, ht612274, bp612268, bp612269, r612275, r612277, r612278⟩ := show rk_2 γ q610691 (F612188 q610691) from RS_o hT612189 ht612193
                  have hf612279 : γ 1 q612266 = f := (show γ 1 q612266 = γ 1 q610691 from ht612271).trans hf612194
                  have hf612280 : γ 1 q612267 = f := (show γ 1 q612267 = γ 1 q610691 from ht612273).trans hf612194
                  have r612281 : γ 6 (γ 1 q610691) = γ 6 f := by rw [hf612194]
                  have r612282 : γ 7 (γ 1 q610691) = γ 7 f := by rw [hf612194]
                  have r612283 : γ 19 (γ 1 q610691) = γ 19 f := by rw [hf612194]
                  have r612284 := r612275.resolve_left (by omega)
                  clear r612275
                  have r612285 : γ 2 (γ 14 q610691) = γ 2 q612266 := by rw [ht612276.1]
                  refine Gp_get 0 hm612264 he612265 dr_cX17_spill_93 (gk_X12 D I) (Nat.le_of_ble_eq_true rfl) wr_9_216 rfl ?_
                  have hm612286 : q612266 ∈ P612187 := RS_m hT612189 ht612270 (by decide)
                  obtain ⟨⟨p612288, p612289, q612290, he612287, r612291, r612292, r612293, r612295⟩, r612294⟩ := show rk_3 D I γ el F612188 q612266 from RS_o hT612189 ht612270
                  have bp612288 := gB_any p612288
                  have bp612289 : gB p612289 0 1000000 := ⟨by omega, by omega⟩
                  refine Gw_callV (As := []) (gV_ok D I) (cp_7_ArrayList_size l hl0 D I P612187 F612188 q612266 p612288 q612290 p612289 hm612286 he612287 (gB_w bp612289 (by decide) (by decide))) dr_cX17_spill_96 ⟨wr_10_196, wr_1_18, wr_9_156, by decide, rfl, (Nat.le_of_ble_eq_true rfl), (Nat.le_of_ble_eq_true rfl)⟩ wr_9_154 wr_9_155 hm612286 he612287 rfl (rm_zc pk612213) (rm_zs pk612213) (Nat.le_of_ble_eq_true rfl) (fun r612299 w612300 dc612296 ds612297 hp612298 => ?_) (fun _ _ _ _ _ z => z.elim)
                  obtain ⟨rfl, rfl, hdc, hds⟩ := hp612298
                  change G _ _ _ _ _ _ _ (.int p612289 :: _) _ _ _
                  refine G_widen (cs' := ((rPh γ el f - rPh γ0 el0 f) / 18)) (sl' := (rPh γ el f - rPh γ0 el0 f)) (rm_d0 hdc) (rm_d0 hds) ?_
                  refine G_icmp_gt 425 dr_cX17_spill_99 (by decide +kernel) (fun hc612301 => ?_) (fun hc612301 => ?_)
                  · have r612302 : p612289.toInt < g612186.toInt := gC_lt hc612301
                    have bg612186' : gB g612186 1 1000003 := ⟨by omega, by omega⟩
                    obtain ⟨z612303, hz612303⟩ : ∃ z : Int32, z = g610551 + Int32.ofInt 1 := ⟨_, rfl⟩
                    have ez612303 : z612303.toInt = g610551.toInt + 1 := gI_inc hz612303 (by decide) bg610551' (by decide) (by decide)
                    have bz612303 : gB z612303 1 1000000 := ⟨by omega, by omega⟩
                    refine G_iinc (L' := [(2, .int z612303), (4, .int g612186), (3, .ref q610691), (0, .ref q572432), (1, .ref q572433)]) z612303 2 dr_cX17_spill_425 rfl hz612303.symm (Nat.le_of_ble_eq_true rfl) rfl ?_
                    refine G_goto 73 dr_cX17_spill_428 (by decide +kernel) ?_
                    refine G_lv (L' := [(2, .int z612303), (0, .ref q572432), (1, .ref q572433)]) [0, 3, 4] rfl ?_
                    have ac612304 : (fI (F612188 q572432) 11).toInt = p612221.toInt := by rw [he612216]; rfl
                    have ac612305 : (fI (F612188 q572432) 14).toInt = p612224.toInt := by rw [he612216]; rfl
                    exact ih73_610567 P612187 F612188 γ el z612303 (gB_w bz612303 (by decide) (by decide)) hT612189 hs612190 hph612191 hB612192 (by omega) (by omega) (by omega) (by omega) (by omega) (by omega) x612203 (sp_nx x612204 (by unfold rwL; rw [r612196]; omega) (by omega)) x612207 x612208 (by omega)
                  · have r612306 : g612186.toInt ≤ p612289.toInt := gC_nlt hc612301
                    have bg612186' : gB g612186 0 1000000 := ⟨by omega, by omega⟩
                    have jn292_612336 : ∀ (P612309 : List Nat) (F612310 : Nat → va_E) (γ el : Nat → Nat → Nat) (g612307 : Int32) (q612308 : Nat), gB g612307 0 1000001 → RS D I P612309 F612310 γ el → rSk f [101] ([1, 3, 5, 6, 8, 9, 101] ++ npk) D I P572430 F572431 γ0 el0 P612309 F612310 γ el → rPh γ0 el0 f ≤ rPh γ el f → rBd γ el f B → rKd γ q610691 2 → γ 1 q610691 = f → g610551.toInt.toNat < γ 2 (γ 14 q572433) → el (γ 14 q572433) g610551.toInt.toNat = q610691 → rKd γ q612308 1 → γ 1 q612308 = f → γ 6 f = γ0 6 f → γ 18 f = γ0 18 f → ((γ 7 f : Nat) : Int) = (fI (F612310 q572432) 11).toInt → (fI (F612310 q572432) 11).toInt = (fI (F607300 q572432) 11).toInt → ((γ 16 f : Nat) : Int) + 2001 ≤ (B : Int) + (fI (F612310 q572432) 14).toInt → 100 ≤ (fI (F612310 q572432) 14).toInt → (F612310 (γ0 9 19) = F607300 (γ0 9 19)) → rPl γ el F612310 q572433 (γ 6 f) (spX (cB (F572431 (γ0 9 3))) (cB (F607300 (γ0 9 19))) (g610551.toInt : Int).toNat (g612307.toInt : Int).toNat) → rAt γ el q572433 (g610551.toInt : Int).toNat (g612307.toInt : Int).toNat = q612308 → rS2 (cB (F572431 (γ0 9 3))) (cB (F607300 (γ0 9 19))) (F612310 q612308) → (g612307.toInt : Int) ≤ γ 2 (γ 14 q610691) → (g610551.toInt : Int) < γ 6 f → (γ 2 (γ 14 q610691) + 1 - (g612307.toInt : Int).toNat) < n90_612208 + 1 → eO g612307.toInt (γ 2 (γ 14 q610691) : Nat) (fI (F612310 q612308) 0).toInt → (F612310 (γ0 9 3) = F572431 (γ0 9 3)) → mKp (F572431 q572432) (F612310 q572432) → G (gV D I) l (gRm 9 195 (((387 * B + 6000) - rPh γ0 el0 f) / 18) ((387 * B + 6000) - rPh γ0 el0 f)) (gMA (gV D I) (pg_572440_SpillForgeModel_spill D I γ0 el0 f B P572430 F572431 q572432 q572433) gNA (((387 * B + 6000) - rPh γ0 el0 f) / 18) ((387 * B + 6000) - rPh γ0 el0 f)) ky_572440_SpillForgeModel_spill 292 [(0, .ref q572432), (1, .ref q572433), (2, .int g610551), (3, .ref q610691), (4, .int g612307), (5, .ref q612308)] [] (va_pl P612309 F612310) ((rPh γ el f - rPh γ0 el0 f) / 18) (rPh γ el f - rPh γ0 el0 f) := by
                      intro P612309 F612310 γ el g612307 q612308 bg612307 hT612311 hs612312 hph612313 hB612314 ht612315 hf612316 r612317 r612318 ht612319 hf612320 x612321 x612322 x612323 x612324 x612325 x612326 x612327 x612328 x612329 x612330 x612331 x612332 x612333 x612334 x612335 x612336
                      clear bp612268 bp612269 r612277 r612278 r612281 r612282 r612283 r612284 r612285 r612291 r612292 r612293 r612295 r612294
                      have ht612338 : rKd γ q572432 10 := rSk_k hs612312 hzq572432 (by decide) (by decide)
                      have ht612339 : rKd γ q572433 9 := rSk_k hs612312 hzq572433 (by decide) (by decide)
                      have hf612340 : γ 1 q572433 = f := rSk_1 hs612312 hzq572433 (by decide) hf0
                      have pk612341 : rPh γ el f ≤ 387 * B + 6000 := rm_pk (rM_ge hT612311 ht612339 hf612340).1 (rM_bd hB612314)
                      have r612342 : 0 < γ 6 (γ 1 q572433) := by rw [hf612340]; omega
                      have hm612343 : q572432 ∈ P612309 := RS_m hT612311 ht612338 (by decide)
                      refine rk10_e (show rk_10 γ (F612310 q572432) from RS_o hT612311 ht612338) (fun q612345 q612346 p612347 p612348 p612349 p612350 p612351 p612352 p612353 p612354 p612355 p612356 p612357 p612358 p612359 p612360 p612361 he612344 hB612388 ht612362 ht612363 ht612364 ht612365 ht612366 ht612367 ht612368 ht612369 ht612370 ht612371 ht612372 ht612373 ht612374 ht612375 ht612376 ht612377 ht612378 ht612379 ht612380 ht612381 ht612382 ht612383 ht612384 ht612385 hB612389 => ?_)
                      have ac612390 : (fI (F612310 q572432) 11).toInt = p612349.toInt := by rw [he612344]; rfl
                      have bp612349 : gB p612349 0 100 := (hB612388.2.2.1)
                      have ac612391 : (fI (F612310 q572432) 14).toInt = p612352.toInt := by rw [he612344]; rfl
                      have bp612352 : gB p612352 0 2000 := (hB612388.2.2.2.1)
                      have hm612392 : q612308 ∈ P612309 := RS_m hT612311 ht612319 (by decide)
                      obtain ⟨p612394, p612395, p612396, p612397, p612398, p612399, p612400, he612393, bp612394, bp612395, bp612398, bp612399, bp612400, r612401, r612402, r612403, r612404, r612405⟩ := show rk_1 γ q612308 (F612310 q612308) from RS_o hT612311 ht612319
                      have bp612396 := gB_any p612396
                      have bp612397 := gB_any p612397
                      replace r612401 : gH _ := r612401
                      replace r612402 : gH _ := r612402
                      replace r612403 : gH _ := r612403
                      replace r612404 : gH _ := r612404
                      replace r612405 : gH _ := r612405
                      have r612406 : γ 7 (γ 1 q612308) = γ 7 f := by rw [hf612320]
                      refine G_aload 5 dr_cX17_spill_292 rfl ?_
                      refine Gw_callV (As := []) (gV_ok D I) (cp_398563_Row_sets l hl0 D I P612309 F612310 q612308 p612394 p612395 p612396 p612397 p612398 p612399 p612400 hm612392 he612393 bp612394 bp612395 bp612398 bp612399 bp612400) dr_cX17_spill_294 ⟨wr_10_177, wr_1_39, wr_10_180, by decide, rfl, (Nat.le_of_ble_eq_true rfl), (Nat.le_of_ble_eq_true rfl)⟩ wr_10_178 wr_10_179 hm612392 he612393 rfl (rm_zc pk612341) (rm_zs pk612341) (Nat.le_of_ble_eq_true rfl) (fun r612410 w612411 dc612407 ds612408 hp612409 => ?_) (fun _ _ _ _ _ z => z.elim)
                      obtain ⟨o612412, rfl, rfl, hdc, hds, bo612412, x612413⟩ := hp612409
                      change G _ _ _ _ _ _ _ (.int o612412 :: _) _ _ _
                      refine G_widen (cs' := ((rPh γ el f - rPh γ0 el0 f) / 18)) (sl' := (rPh γ el f - rPh γ0 el0 f)) (rm_d0 hdc) (rm_d0 hds) ?_
                      refine G_if_eq 419 dr_cX17_spill_297 (by decide +kernel) (fun hc612414 => ?_) (fun hc612414 => ?_)
                      · have r612415 : o612412.toInt = 0 := gj_eq hc612414 (show Int32.toInt 0 = 0 by decide)
                        have bo612412' : gB o612412 0 0 := gB_t0 r612415
                        have rn612417 : rNx (nSp (cB (F572431 (γ0 9 3))) (cB (F607300 (γ0 9 19)))) (F612310 q612308) := rS2_n he612393 he612393 x612330 (fun h => (uS_0 x612413 (by omega) h).elim)
                        have pl612416 := sp_fin x612328 x612329 rn612417 (rfl : (g612307.toInt : Int).toNat + 1 = (g612307.toInt : Int).toNat + 1)
                        obtain ⟨z612418, hz612418⟩ : ∃ z : Int32, z = g612307 + Int32.ofInt 1 := ⟨_, rfl⟩
                        have ez612418 : z612418.toInt = g612307.toInt + 1 := gI_inc hz612418 (by decide) bg612307 (by decide) (by decide)
                        have bz612418 : gB z612418 1 1000002 := ⟨by omega, by omega⟩
                        refine G_iinc (L' := [(4, .int z612418), (0, .ref q572432), (1, .ref q572433), (2, .int g610551), (3, .ref q610691), (5, .ref q612308)]) z612418 4 dr_cX17_spill_419 rfl hz612418.symm (Nat.le_of_ble_eq_true rfl) rfl ?_
                        refine G_goto 90 dr_cX17_spill_422 (by decide +kernel) ?_
                        refine G_lv (L' := [(4, .int z612418), (3, .ref q610691), (2, .int g610551), (0, .ref q572432), (1, .ref q572433)]) [0, 4, 3, 1, 2] rfl ?_
                        have ac612419 : (fI (F612310 q572432) 11).toInt = p612349.toInt := by rw [he612344]; rfl
                        have ac612420 : (fI (F612310 q572432) 14).toInt = p612352.toInt := by rw [he612344]; rfl
                        exact ih90_612208 P612309 F612310 γ el z612418 (gB_w bz612418 (by decide) (by decide)) hT612311 hs612312 hph612313 hB612314 ht612315 hf612316 r612317 r612318 (by omega) (by omega) (by omega) (by omega) (by omega) (by omega) x612327 (by rw [(show (z612418.toInt : Int).toNat = ((g612307.toInt : Int).toNat + 1) from tn_eq1 (by omega) (by omega))]; exact pl612416) (by omega) (by omega) x612335 x612336 (ms_g x612333 (by omega) (by omega) (by omega))
                      · have r612421 : o612412.toInt ≠ 0 := gj_neq hc612414 (show Int32.toInt 0 = 0 by decide)
                        have bo612412' : gB o612412 1 1 := gB_t1 bo612412 r612421
                        refine G_aload 5 dr_cX17_spill_300 rfl ?_
                        refine Gp_get 0 hm612392 he612393 dr_cX17_spill_302 (gk_X15 D I) (Nat.le_of_ble_eq_true rfl) wr_9_173 rfl ?_
                        refine G_bipush 21 dr_cX17_spill_305 (by decide +kernel) ?_
                        refine G_icmp_eq 419 dr_cX17_spill_307 (by decide +kernel) (fun hc612422 => ?_) (fun hc612422 => ?_)
                        · have r612423 : p612394.toInt = 21 := gj_eq hc612422 (show Int32.toInt 21 = 21 by decide)
                          have bp612394' : gB p612394 21 21 := ⟨by omega, by omega⟩
                          have rn612425 : rNx (nSp (cB (F572431 (γ0 9 3))) (cB (F607300 (γ0 9 19)))) (F612310 q612308) := rS2_n he612393 he612393 x612330 (fun _ => Or.inr ⟨rfl, Or.inl (by omega)⟩)
                          have pl612424 := sp_fin x612328 x612329 rn612425 (rfl : (g612307.toInt : Int).toNat + 1 = (g612307.toInt : Int).toNat + 1)
                          obtain ⟨z612426, hz612426⟩ : ∃ z : Int32, z = g612307 + Int32.ofInt 1 := ⟨_, rfl⟩
                          have ez612426 : z612426.toInt = g612307.toInt + 1 := gI_inc hz612426 (by decide) bg612307 (by decide) (by decide)
                          have bz612426 : gB z612426 1 1000002 := ⟨by omega, by omega⟩
                          refine G_iinc (L' := [(4, .int z612426), (0, .ref q572432), (1, .ref q572433), (2, .int g610551), (3, .ref q610691), (5, .ref q612308)]) z612426 4 dr_cX17_spill_419 rfl hz612426.symm (Nat.le_of_ble_eq_true rfl) rfl ?_
                          refine G_goto 90 dr_cX17_spill_422 (by decide +kernel) ?_
                          refine G_lv (L' := [(4, .int z612426), (3, .ref q610691), (2, .int g610551), (0, .ref q572432), (1, .ref q572433)]) [0, 4, 3, 1, 2] rfl ?_
                          have ac612427 : (fI (F612310 q572432) 11).toInt = p612349.toInt := by rw [he612344]; rfl
                          have ac612428 : (fI (F612310 q572432) 14).toInt = p612352.toInt := by rw [he612344]; rfl
                          exact ih90_612208 P612309 F612310 γ el z612426 (gB_w bz612426 (by decide) (by decide)) hT612311 hs612312 hph612313 hB612314 ht612315 hf612316 r612317 r612318 (by omega) (by omega) (by omega) (by omega) (by omega) (by omega) x612327 (by rw [(show (z612426.toInt : Int).toNat = ((g612307.toInt : Int).toNat + 1) from tn_eq1 (by omega) (by omega))]; exact pl612424) (by omega) (by omega) x612335 x612336 (ms_g x612333 (by omega) (by omega) (by omega))
                        · have r612429 : p612394.toInt ≠ 21 := gj_neq hc612422 (show Int32.toInt 21 = 21 by decide)
                          refine G_aload_n 0 dr_cX17_spill_310 rfl ?_
                          refine Gp_get 19 hm612343 he612344 dr_cX17_spill_311 (gk_X17 D I) (Nat.le_of_ble_eq_true rfl) wr_7_93 rfl ?_
                          refine G_aload 5 dr_cX17_spill_314 rfl ?_
                          refine Gp_get 1 hm612392 he612393 dr_cX17_spill_316 (gk_X15 D I) (Nat.le_of_ble_eq_true rfl) wr_9_178 rfl ?_
                          have hm612430 : (γ 9 19) ∈ P612309 := RS_m hT612311 ht612377 (by decide)
                          obtain ⟨f612432, he612431, bf612432⟩ := show rk_21 I (F612310 (γ 9 19)) from RS_o hT612311 ht612377
                          refine Gp_iald 0 hm612430 he612431 dr_cX17_spill_319 rfl (gB_in bp612395 (by decide) (by decide)) (G_nam fun z612433 hz612433 => ?_)
                          have bz612433 : gB z612433 (-1) 1999 := by rw [hz612433]; exact bf612432 _
                          have c9_612434 : cB (F607300 (γ0 9 19)) = f612432 := by rw [← x612327, ← congrFun (rSk_9 hs612312) 19]; exact cB_of he612431
                          have hs612435 : (cB (F607300 (γ0 9 19)) p612395.toInt.toNat).toInt = z612433.toInt := by rw [c9_612434, hz612433]; rfl
                          refine G_if_ge 326 dr_cX17_spill_320 (by decide +kernel) (fun hc612437 => ?_) (fun hc612437 => ?_)
                          · have r612438 : 0 ≤ z612433.toInt := gj_leL hc612437 (show Int32.toInt 0 = 0 by decide)
                            have bz612433' : gB z612433 0 1999 := ⟨by omega, by omega⟩
                            refine G_aload_n 0 dr_cX17_spill_326 rfl ?_
                            refine Gp_get 19 hm612343 he612344 dr_cX17_spill_327 (gk_X17 D I) (Nat.le_of_ble_eq_true rfl) wr_7_93 rfl ?_
                            refine G_aload 5 dr_cX17_spill_330 rfl ?_
                            refine Gp_get 1 hm612392 he612393 dr_cX17_spill_332 (gk_X15 D I) (Nat.le_of_ble_eq_true rfl) wr_9_178 rfl ?_
                            refine Gp_iald 0 hm612430 he612431 dr_cX17_spill_335 rfl (gB_in bp612395 (by decide) (by decide)) (G_eqi (y := z612433) hz612433.symm ?_)
                            have r612439 := (spi607385.2.2.2 p612395.toInt.toNat (tn_lt (by omega) (by omega)) (by omega)).2.2
                            refine G_istore (L' := [(8, .int z612433), (0, .ref q572432), (1, .ref q572433), (2, .int g610551), (3, .ref q610691), (4, .int g612307), (5, .ref q612308)]) dr_cX17_spill_336 (Nat.le_of_ble_eq_true rfl) rfl ?_
                            refine G_aload_n 1 dr_cX17_spill_338 rfl ?_
                            refine Gp_get 14 hm612343 he612344 dr_cX17_spill_339 (gk_X17 D I) (Nat.le_of_ble_eq_true rfl) wr_7_88 rfl ?_
                            refine G_sipush 2000 dr_cX17_spill_342 (by decide +kernel) ?_
                            refine G_icmp_ne 350 dr_cX17_spill_345 (by decide +kernel) (fun hc612440 => ?_) (fun hc612440 => ?_)
                            · have r612441 : p612352.toInt ≠ 2000 := gj_neq hc612440 (show Int32.toInt 2000 = 2000 by decide)
                              have bp612352' : gB p612352 0 1999 := ⟨by omega, by omega⟩
                              have r612442 := eO_r x612334 (by rw [he612393]; rfl) (uS_1 x612413 (by omega))
                              refine G_aload 6 dr_cX17_spill_350 rfl ?_
                              refine G_aload_n 1 dr_cX17_spill_352 rfl ?_
                              refine Gp_get 14 hm612343 he612344 dr_cX17_spill_353 (gk_X17 D I) (Nat.le_of_ble_eq_true rfl) wr_7_88 rfl ?_
                              refine Gp_put 1 hm612392 he612393 dr_cX17_spill_356 (gk_X15 D I) (Nat.le_of_ble_eq_true rfl) wr_9_178 rfl rfl rfl (Nat.le_of_ble_eq_true rfl) (fun F612443 e612444 n612445 => ?_)
                              have r612446 := rk1_at hT612311 ht612319 he612393
                              have he612447 : F612443 q572432 = .inr (22, [.ref (γ 9 0), .ref (γ 9 1), .ref (γ 9 2), .ref (γ 9 3), .ref (γ 9 4), .ref (γ 9 5), .ref (γ 9 6), .ref (γ 9 7), .ref (γ 9 8), .int p612347, .int p612348, .int p612349, .int p612350, .int p612351, .int p612352, .ref (γ 9 15), .ref (γ 9 16), .ref (γ 9 17), .ref (γ 9 18), .ref (γ 9 19), .ref (γ 9 20), .ref (γ 9 21), .ref (γ 9 22), .int p612353, .int p612354, .int p612355, .int p612356, .int p612357, .ref q612345, .ref (γ 9 29), .int p612358, .ref (γ 9 31), .int p612359, .int p612360, .int p612361, .ref q612346]) := (n612445 q572432 (rn_oo he612344 he612393 (by decide))).trans he612344
                              have he612448 : F612443 (γ 9 19) = .inl (I .int, 2000, .inl f612432) := (n612445 (γ 9 19) (rn_ao he612431 he612393)).trans he612431
                              have he612449 : F612443 q612308 = .inr (20, [.int p612394, .int p612352, .int p612396, .int p612397, .int p612398, .int p612399, .int p612400]) := e612444
                              have mk612450 : mKp (F572431 q572432) (F612443 q572432) := mKp_tr x612336 (mKp_eq (n612445 q572432 (rn_ty ht612338 ht612319 (by decide))))
                              have kp612451 : F612443 (γ0 9 3) = F572431 (γ0 9 3) := (n612445 (γ0 9 3) (rn_ty (rSk_k hs612312 k0_3 (by decide) (by decide)) ht612319 (by decide))).trans x612335
                              have kp612452 : F612443 (γ0 9 19) = F607300 (γ0 9 19) := (n612445 (γ0 9 19) (rn_ty (rSk_k hs612312 k0_19 (by decide) (by decide)) ht612319 (by decide))).trans x612327
                              have hT612453 : RS D I P612309 F612443 γ el := RS_set hT612311 n612445 ht612319 (by decide) ⟨p612394, p612352, p612396, p612397, p612398, p612399, p612400, he612449, bp612394, bp612352', bp612398, bp612399, bp612400, (gHe r612401), (gHe r612402), (gHe r612403), r612446.1, r612446.2⟩
                              have hs612455 := rSk_put hs612312 hT612453 n612445 ht612319 (by decide) (by decide)
                              have hm612457 : q610691 ∈ P612309 := RS_m hT612453 ht612315 (by decide)
                              obtain ⟨q612459, q612460, p612461, p612462, he612458, ht612469, ht612463, ht612464, ht612465, ht612466, ht612467, bp612461, bp612462, r612468, r612470, r612471⟩ := show rk_2 γ q610691 (F612443 q610691) from RS_o hT612453 ht612315
                              have hf612472 : γ 1 q612459 = f := (show γ 1 q612459 = γ 1 q610691 from ht612464).trans hf612316
                              have hf612473 : γ 1 q612460 = f := (show γ 1 q612460 = γ 1 q610691 from ht612466).trans hf612316
                              have r612474 : γ 6 (γ 1 q610691) = γ 6 f := by rw [hf612316]
                              have r612475 : γ 7 (γ 1 q610691) = γ 7 f := by rw [hf612316]
                              have r612476 : γ 19 (γ 1 q610691) = γ 19 f := by rw [hf612316]
                              have r612477 := r612468.resolve_left (by omega)
                              clear r612468
                              have r612478 : γ 2 (γ 14 q610691) = γ 2 q612459 := by rw [ht612469.1]
                              have pl612456 := sp_put hT612311 ht612339 hf612340 x612328 n612445 x612329 (show (g610551.toInt : Int).toNat < γ 6 f from tn_lt (by omega) (by omega)) (by unfold rwL; rw [r612318]; exact tn_le0 (by omega) (by omega))
                              have rn612480 : rNx (nSp (cB (F572431 (γ0 9 3))) (cB (F607300 (γ0 9 19)))) (F612443 q612308) := rS2_n he612393 he612449 x612330 (fun _ => Or.inl (by omega))
                              have pl612479 := sp_fin pl612456 x612329 rn612480 (rfl : (g612307.toInt : Int).toNat + 1 = (g612307.toInt : Int).toNat + 1)
                              refine G_aload_n 1 dr_cX17_spill_359 rfl ?_
                              refine G_dup dr_cX17_spill_360 rfl ?_
                              refine Gp_get 14 hm612343 he612447 dr_cX17_spill_361 (gk_X17 D I) (Nat.le_of_ble_eq_true rfl) wr_7_88 rfl ?_
                              refine G_iconst 1 dr_cX17_spill_364 (by decide +kernel) ?_
                              refine G_iadd dr_cX17_spill_365 (G_nam fun z612481 hz612481 => ?_)
                              have ez612481 : z612481.toInt = p612352.toInt + 1 := by rw [gI_add hz612481 bp612352' (gBl (show Int32.toInt 1 = 1 by decide)) (by decide) (by decide), show Int32.toInt 1 = 1 from by decide]
                              have bz612481 : gB z612481 1 2000 := gB_add (gI_add hz612481 bp612352' (gBl (show Int32.toInt 1 = 1 by decide)) (by decide) (by decide)) bp612352' (gBl (show Int32.toInt 1 = 1 by decide)) (by decide) (by decide)
                              refine Gp_put 14 hm612343 he612447 dr_cX17_spill_366 (gk_X17 D I) (Nat.le_of_ble_eq_true rfl) wr_7_88 rfl rfl rfl (Nat.le_of_ble_eq_true rfl) (fun F612482 e612483 n612484 => ?_)
                              have he612485 : F612482 q612308 = .inr (20, [.int p612394, .int p612352, .int p612396, .int p612397, .int p612398, .int p612399, .int p612400]) := (n612484 q612308 (rn_oo he612449 he612447 (by decide))).trans he612449
                              have he612486 : F612482 (γ 9 19) = .inl (I .int, 2000, .inl f612432) := (n612484 (γ 9 19) (rn_ao he612448 he612447)).trans he612448
                              have he612487 : F612482 q610691 = .inr (17, [.ref q612459, .ref q612460, .int p612461, .int p612462]) := (n612484 q610691 (rn_oo he612458 he612447 (by decide))).trans he612458
                              have he612488 : F612482 q572432 = .inr (22, [.ref (γ 9 0), .ref (γ 9 1), .ref (γ 9 2), .ref (γ 9 3), .ref (γ 9 4), .ref (γ 9 5), .ref (γ 9 6), .ref (γ 9 7), .ref (γ 9 8), .int p612347, .int p612348, .int p612349, .int p612350, .int p612351, .int z612481, .ref (γ 9 15), .ref (γ 9 16), .ref (γ 9 17), .ref (γ 9 18), .ref (γ 9 19), .ref (γ 9 20), .ref (γ 9 21), .ref (γ 9 22), .int p612353, .int p612354, .int p612355, .int p612356, .int p612357, .ref q612345, .ref (γ 9 29), .int p612358, .ref (γ 9 31), .int p612359, .int p612360, .int p612361, .ref q612346]) := e612483
                              have mk612489 : mKp (F572431 q572432) (F612482 q572432) := mKp_tr mk612450 (by rw [he612447, he612488]; exact ⟨rfl, rfl⟩)
                              have kp612490 : F612482 (γ0 9 3) = F572431 (γ0 9 3) := (n612484 (γ0 9 3) (rn_ty (rSk_k hs612455 k0_3 (by decide) (by decide)) ht612338 (by decide))).trans kp612451
                              have kp612491 : F612482 (γ0 9 19) = F607300 (γ0 9 19) := (n612484 (γ0 9 19) (rn_ty (rSk_k hs612455 k0_19 (by decide) (by decide)) ht612338 (by decide))).trans kp612452
                              have hT612492 : RS D I P612309 F612482 γ el := RS_set hT612453 n612484 ht612338 (by decide) ⟨q612345, q612346, p612347, p612348, p612349, p612350, p612351, z612481, p612353, p612354, p612355, p612356, p612357, p612358, p612359, p612360, p612361, he612488, ⟨(hB612388.1), (hB612388.2.1), bp612349, (gB_w bz612481 (by decide) (by decide)), (hB612388.2.2.2.2.1), (hB612388.2.2.2.2.2.1), (hB612388.2.2.2.2.2.2.1), (hB612388.2.2.2.2.2.2.2.1), (hB612388.2.2.2.2.2.2.2.2)⟩, ht612362, ht612363, ht612364, ht612365, ht612366, ht612367, ht612368, ht612369, ht612370, ht612371, ht612372, ht612373, ht612374, ht612375, ht612376, ht612377, ht612378, ht612379, ht612380, ht612381, ht612382, ht612383, ht612384, ht612385, hB612389⟩
                              have hs612494 := rSk_put hs612455 hT612492 n612484 ht612338 (by decide) (by decide)
                              have pl612495 := rPl_fr hT612453 ht612339 hf612340 pl612479 (fun b hb _ => n612484 b (rn_ty (show rKd γ b 1 from hb) ht612338 (by decide)))
                              have ac612496 : (fI (F612482 q572432) 11).toInt = p612349.toInt := by rw [he612488]; rfl
                              have ac612497 : (fI (F612482 q572432) 14).toInt = z612481.toInt := by rw [he612488]; rfl
                              refine G_aload_n 2 dr_cX17_spill_369 rfl ?_
                              have rg612498 := rM_ge hT612492 ht612339 hf612340
                              have rm612499 := rM_bd hB612314
                              have bd612500 := rBd_c hT612492 ht612339 hf612340 hB612314
                              have rc612501 := rc_at hT612492 ht612339 hf612340
                              obtain ⟨q612508, hl612509⟩ : ∃ z, z = γ 14 q610691 := ⟨_, rfl⟩
                              have hl612510 : γ 0 q612508 = 3 ∨ γ 0 q612508 = 103 := by rw [hl612509, ← r612318]; exact (RS_lst hT612492 rc612501.2.1 r612317).1
                              refine Gt_row (c := q572433) (f := f) hl0 dr_cX17_spill_370 ⟨wr_10_202, wr_1_15, wr_10_78, by decide, rfl, (Nat.le_of_ble_eq_true rfl), (Nat.le_of_ble_eq_true rfl)⟩ wr_10_76 wr_10_77 hT612492 ht612339 hf612340 (Nat.le_trans bd612500.2.2.1 (Nat.le_trans hBk (by decide))) (rm_cs hph612313 rg612498.2.1 rm612499 (by decide)) (rm_sl hph612313 rg612498.2.1 rm612499 rm_s18) (Nat.le_of_ble_eq_true rfl) (fun P612502 F612503 γ el q612504 dc612505 ds612506 hq612507 => ?_)
                              have pl612511 := rPl_row hT612492 ht612339 hf612340 hq612507 pl612495
                              obtain ⟨hk612512, x0612513, x1612514, x22612515, x8612516, h16612517, h18612518, hnu612519, hot612520, h45612521, hf0612522, ⟨hr1612523, hr2612524⟩, hM612525, hBB612526⟩ := hq612507
                              have hk612527 := rSk_of hk612512
                              obtain ⟨nu612528, nu612529, nu612530, nu612531⟩ := hnu612519
                              have hT612532 := hk612527.1
                              have hs612533 := rSk_tr hs612494 hk612527 (by decide) (by decide) (by decide)
                              have kp612534 : F612503 (γ0 9 3) = F572431 (γ0 9 3) := (rSk_F hk612527 (rSk_k hs612494 k0_3 (by decide) (by decide)) (by decide) (by decide)).trans kp612490
                              have kp612535 : F612503 (γ0 9 19) = F607300 (γ0 9 19) := (rSk_F hk612527 (rSk_k hs612494 k0_19 (by decide) (by decide)) (by decide) (by decide)).trans kp612491
                              have r612536 := rSk_F hk612527 ht612338 (by decide) (by decide)
                              have ht612537 : rKd γ q572432 10 := rSk_k hk612527 ht612338 (by decide) (by decide)
                              have ht612538 : rKd γ q572433 9 := rSk_k hk612527 ht612339 (by decide) (by decide)
                              have hf612539 : γ 1 q572433 = f := rSk_1 hk612527 ht612339 (by decide) hf612340
                              have ht612540 : rKd γ q610691 2 := rSk_k hk612527 ht612315 (by decide) (by decide)
                              have hf612541 : γ 1 q610691 = f := rSk_1 hk612527 ht612315 (by decide) hf612316
                              have ht612542 : rKd γ q612308 1 := rSk_k hk612527 ht612319 (by decide) (by decide)
                              have hf612543 : γ 1 q612308 = f := rSk_1 hk612527 ht612319 (by decide) hf612320
                              have ht612544 : rKd γ q612459 3 := rSk_k hk612527 ht612463 (by decide) (by decide)
                              have hf612545 : γ 1 q612459 = f := rSk_1 hk612527 ht612463 (by decide) hf612472
                              have mk612546 : mKp (F572431 q572432) (F612503 q572432) := mKp_tr mk612489 (mKp_eq (rSk_F hk612527 ht612338 (by decide) (by decide)))
                              have r612547 := (rSk_s hk612527 ht612339 (by decide)).2.1
                              have r612548 := hot612520 _ (by rw [rc612501.2.1]; decide) (by rw [rc612501.2.1]; decide)
                              have r612549 : g610551.toInt.toNat < γ 2 (γ 14 q572433) := by rw [r612547, r612548.1]; exact r612317
                              have r612550 : el (γ 14 q572433) g610551.toInt.toNat = q610691 := by rw [r612547, r612548.2]; exact r612318
                              have he612551 : F612503 q612308 = .inr (20, [.int p612394, .int p612352, .int p612396, .int p612397, .int p612398, .int p612399, .int p612400]) := (rSk_F hk612527 ht612319 (by decide) (by decide)).trans he612485
                              have hm612552 : q612308 ∈ P612502 := RS_m hT612532 ht612542 (by decide)
                              clear bp612461 bp612462 r612470 r612471 rg612498 rm612499 bd612500 rc612501
                              have hm612553 : q572432 ∈ P612502 := RS_m hT612532 ht612537 (by decide)
                              refine rk10_e (show rk_10 γ (F612503 q572432) from RS_o hT612532 ht612537) (fun q612555 q612556 p612557 p612558 p612559 p612560 p612561 p612562 p612563 p612564 p612565 p612566 p612567 p612568 p612569 p612570 p612571 he612554 hB612598 ht612572 ht612573 ht612574 ht612575 ht612576 ht612577 ht612578 ht612579 ht612580 ht612581 ht612582 ht612583 ht612584 ht612585 ht612586 ht612587 ht612588 ht612589 ht612590 ht612591 ht612592 ht612593 ht612594 ht612595 hB612599 => ?_)
                              have r612600 : p612559.toInt = p612349.toInt := by have z : p612559 = p612349 := congrArg (fun e => fI e 11) (he612554.symm.trans (r612536.trans he612488)); rw [z]
                              have bp612559 : gB p612559 0 100 := (hB612598.2.2.1)
                              have r612601 : p612562.toInt = z612481.toInt := by have z : p612562 = z612481 := congrArg (fun e => fI e 14) (he612554.symm.trans (r612536.trans he612488)); rw [z]
                              have bp612562 : gB p612562 0 2000 := (hB612598.2.2.2.1)
                              have bp612562' : gB p612562 1 2000 := ⟨by omega, by omega⟩
                              have sz612602 := (rSk_s hk612527 ht612315 (by decide)).2.1
                              have sz612603 := congrArg (γ 2) sz612602
                              have sz612604 := (hot612520 q612508 (by omega) (by omega)).1
                              rw [hl612509] at sz612604
                              clear hl612510
                              have sz612605 := (hot612520 q612459 (rT0 ht612463 (by decide)) (by rw [show _ = 3 from ht612463]; decide)).1
                              have r612606 := hf0612522.2.2
                              have hB612607 : rBd γ el f B := hBB612526 B (by omega) hB612314
                              have ht612608 : rKd γ q612504 101 := x0612513
                              have r612609 : γ 8 q612504 < γ 16 f := rm_x8 x8612516 h16612517 rfl
                              have hph612610 : rPh γ0 el0 f ≤ rPh γ el f := rm_ph hph612313 hr2612524
                              have pk612611 : rPh γ el f ≤ 387 * B + 6000 := rm_pk (rM_ge hT612532 ht612538 hf612539).1 (rM_bd hB612607)
                              have hm612612 : q612504 ∈ P612502 := RS_m hT612532 ht612608 (by decide)
                              obtain ⟨p612614, p612615, p612616, p612617, p612618, p612619, p612620, he612613, bp612614, bp612615, bp612618, bp612619, bp612620, r612621, r612622, r612623⟩ := show rkR (F612503 q612504) from RS_o hT612532 ht612608
                              have bp612616 := gB_any p612616
                              have bp612617 := gB_any p612617
                              replace r612621 : gH _ := r612621
                              replace r612622 : gH _ := r612622
                              replace r612623 : gH _ := r612623
                              have r612624 : γ 7 (γ 1 q612504) = γ 7 f := by rw [x1612514]
                              have r612625 : p612619.toInt = 0 := by have z := hf0612522.1; rw [he612613] at z; exact z
                              have bp612619' : gB p612619 0 0 := gB_t0 r612625
                              have r612626 : p612620.toInt = 0 := by have z := hf0612522.2.1; rw [he612613] at z; exact z
                              have bp612620' : gB p612620 0 0 := gB_t0 r612626
                              refine G_widen (cs' := ((rPh γ el f - rPh γ0 el0 f) / 18)) (sl' := (rPh γ el f - rPh γ0 el0 f)) (rm_wc hph612313 hr1612523) (rm_ws hph612313 hr2612524) ?_
                              refine G_astore (L' := [(9, .ref q612504), (8, .int z612433), (0, .ref q572432), (1, .ref q572433), (2, .int g610551), (3, .ref q610691), (4, .int g612307), (5, .ref q612308)]) dr_cX17_spill_373 (Nat.le_of_ble_eq_true rfl) rfl ?_
                              refine G_aload 0 dr_cX17_spill_375 rfl ?_
                              refine G_bipush 23 dr_cX17_spill_377 (by decide +kernel) ?_
                              refine Gp_put 0 hm612612 he612613 dr_cX17_spill_379 (gk_X15 D I) (Nat.le_of_ble_eq_true rfl) wr_9_173 rfl rfl rfl (Nat.le_of_ble_eq_true rfl) (fun F612627 e612628 n612629 => ?_)
                              have he612630 : F612627 q612308 = .inr (20, [.int p612394, .int p612352, .int p612396, .int p612397, .int p612398, .int p612399, .int p612400]) := (n612629 q612308 (rn_ty ht612542 ht612608 (by decide))).trans he612551
                              have he612631 : F612627 q572432 = .inr (22, [.ref (γ 9 0), .ref (γ 9 1), .ref (γ 9 2), .ref (γ 9 3), .ref (γ 9 4), .ref (γ 9 5), .ref (γ 9 6), .ref (γ 9 7), .ref (γ 9 8), .int p612557, .int p612558, .int p612559, .int p612560, .int p612561, .int p612562, .ref (γ 9 15), .ref (γ 9 16), .ref (γ 9 17), .ref (γ 9 18), .ref (γ 9 19), .ref (γ 9 20), .ref (γ 9 21), .ref (γ 9 22), .int p612563, .int p612564, .int p612565, .int p612566, .int p612567, .ref q612555, .ref (γ 9 29), .int p612568, .ref (γ 9 31), .int p612569, .int p612570, .int p612571, .ref q612556]) := (n612629 q572432 (rn_oo he612554 he612613 (by decide))).trans he612554
                              have he612632 : F612627 q612504 = .inr (20, [.int 23, .int p612615, .int p612616, .int p612617, .int p612618, .int p612619, .int p612620]) := e612628
                              have mk612633 : mKp (F572431 q572432) (F612627 q572432) := mKp_tr mk612546 (mKp_eq (n612629 q572432 (rn_ty ht612537 ht612608 (by decide))))
                              have kp612634 : F612627 (γ0 9 3) = F572431 (γ0 9 3) := (n612629 (γ0 9 3) (rn_ty (rSk_k hs612533 k0_3 (by decide) (by decide)) ht612608 (by decide))).trans kp612534
                              have kp612635 : F612627 (γ0 9 19) = F607300 (γ0 9 19) := (n612629 (γ0 9 19) (rn_ty (rSk_k hs612533 k0_19 (by decide) (by decide)) ht612608 (by decide))).trans kp612535
                              refine G_aload 0 dr_cX17_spill_382 rfl ?_
                              refine G_iload 1 dr_cX17_spill_384 rfl ?_
                              refine Gp_put 4 hm612612 he612632 dr_cX17_spill_386 (gk_X15 D I) (Nat.le_of_ble_eq_true rfl) wr_9_189 rfl rfl rfl (Nat.le_of_ble_eq_true rfl) (fun F612636 e612637 n612638 => ?_)
                              have he612639 : F612636 q612308 = .inr (20, [.int p612394, .int p612352, .int p612396, .int p612397, .int p612398, .int p612399, .int p612400]) := (n612638 q612308 (rn_ty ht612542 ht612608 (by decide))).trans he612630
                              have he612640 : F612636 q572432 = .inr (22, [.ref (γ 9 0), .ref (γ 9 1), .ref (γ 9 2), .ref (γ 9 3), .ref (γ 9 4), .ref (γ 9 5), .ref (γ 9 6), .ref (γ 9 7), .ref (γ 9 8), .int p612557, .int p612558, .int p612559, .int p612560, .int p612561, .int p612562, .ref (γ 9 15), .ref (γ 9 16), .ref (γ 9 17), .ref (γ 9 18), .ref (γ 9 19), .ref (γ 9 20), .ref (γ 9 21), .ref (γ 9 22), .int p612563, .int p612564, .int p612565, .int p612566, .int p612567, .ref q612555, .ref (γ 9 29), .int p612568, .ref (γ 9 31), .int p612569, .int p612570, .int p612571, .ref q612556]) := (n612638 q572432 (rn_oo he612631 he612632 (by decide))).trans he612631
                              have he612641 : F612636 q612504 = .inr (20, [.int 23, .int p612615, .int p612616, .int p612617, .int z612433, .int p612619, .int p612620]) := e612637
                              have mk612642 : mKp (F572431 q572432) (F612636 q572432) := mKp_tr mk612633 (mKp_eq (n612638 q572432 (rn_ty ht612537 ht612608 (by decide))))
                              have n612643 : ∀ b, b ≠ q612504 → F612636 b = F612503 b := fun b hb => (n612638 b hb).trans (n612629 b hb)
                              have kp612644 : F612636 (γ0 9 3) = F572431 (γ0 9 3) := (n612638 (γ0 9 3) (rn_ty (rSk_k hs612533 k0_3 (by decide) (by decide)) ht612608 (by decide))).trans kp612634
                              have kp612645 : F612636 (γ0 9 19) = F607300 (γ0 9 19) := (n612638 (γ0 9 19) (rn_ty (rSk_k hs612533 k0_19 (by decide) (by decide)) ht612608 (by decide))).trans kp612635
                              refine G_aload 0 dr_cX17_spill_389 rfl ?_
                              refine G_aload 7 dr_cX17_spill_391 rfl ?_
                              refine Gp_get 1 hm612552 he612639 dr_cX17_spill_393 (gk_X15 D I) (Nat.le_of_ble_eq_true rfl) wr_9_178 rfl ?_
                              refine Gp_put 2 hm612612 he612641 dr_cX17_spill_396 (gk_X15 D I) (Nat.le_of_ble_eq_true rfl) wr_9_182 rfl rfl rfl (Nat.le_of_ble_eq_true rfl) (fun F612646 e612647 n612648 => ?_)
                              have he612649 : F612646 q612308 = .inr (20, [.int p612394, .int p612352, .int p612396, .int p612397, .int p612398, .int p612399, .int p612400]) := (n612648 q612308 (rn_ty ht612542 ht612608 (by decide))).trans he612639
                              have he612650 : F612646 q572432 = .inr (22, [.ref (γ 9 0), .ref (γ 9 1), .ref (γ 9 2), .ref (γ 9 3), .ref (γ 9 4), .ref (γ 9 5), .ref (γ 9 6), .ref (γ 9 7), .ref (γ 9 8), .int p612557, .int p612558, .int p612559, .int p612560, .int p612561, .int p612562, .ref (γ 9 15), .ref (γ 9 16), .ref (γ 9 17), .ref (γ 9 18), .ref (γ 9 19), .ref (γ 9 20), .ref (γ 9 21), .ref (γ 9 22), .int p612563, .int p612564, .int p612565, .int p612566, .int p612567, .ref q612555, .ref (γ 9 29), .int p612568, .ref (γ 9 31), .int p612569, .int p612570, .int p612571, .ref q612556]) := (n612648 q572432 (rn_oo he612640 he612641 (by decide))).trans he612640
                              have he612651 : F612646 q612504 = .inr (20, [.int 23, .int p612615, .int p612352, .int p612617, .int z612433, .int p612619, .int p612620]) := e612647
                              have mk612652 : mKp (F572431 q572432) (F612646 q572432) := mKp_tr mk612642 (mKp_eq (n612648 q572432 (rn_ty ht612537 ht612608 (by decide))))
                              have n612653 : ∀ b, b ≠ q612504 → F612646 b = F612503 b := fun b hb => (n612648 b hb).trans (n612643 b hb)
                              have kp612654 : F612646 (γ0 9 3) = F572431 (γ0 9 3) := (n612648 (γ0 9 3) (rn_ty (rSk_k hs612533 k0_3 (by decide) (by decide)) ht612608 (by decide))).trans kp612644
                              have kp612655 : F612646 (γ0 9 19) = F607300 (γ0 9 19) := (n612648 (γ0 9 19) (rn_ty (rSk_k hs612533 k0_19 (by decide) (by decide)) ht612608 (by decide))).trans kp612645
                              refine G_aload 0 dr_cX17_spill_399 rfl ?_
                              refine G_iconst 1 dr_cX17_spill_401 (by decide +kernel) ?_
                              refine Gp_put 5 hm612612 he612651 dr_cX17_spill_402 (gk_X15 D I) (Nat.le_of_ble_eq_true rfl) wr_9_193 rfl rfl rfl (Nat.le_of_ble_eq_true rfl) (fun F612656 e612657 n612658 => ?_)
                              have he612659 : F612656 q612308 = .inr (20, [.int p612394, .int p612352, .int p612396, .int p612397, .int p612398, .int p612399, .int p612400]) := (n612658 q612308 (rn_ty ht612542 ht612608 (by decide))).trans he612649
                              have he612660 : F612656 q572432 = .inr (22, [.ref (γ 9 0), .ref (γ 9 1), .ref (γ 9 2), .ref (γ 9 3), .ref (γ 9 4), .ref (γ 9 5), .ref (γ 9 6), .ref (γ 9 7), .ref (γ 9 8), .int p612557, .int p612558, .int p612559, .int p612560, .int p612561, .int p612562, .ref (γ 9 15), .ref (γ 9 16), .ref (γ 9 17), .ref (γ 9 18), .ref (γ 9 19), .ref (γ 9 20), .ref (γ 9 21), .ref (γ 9 22), .int p612563, .int p612564, .int p612565, .int p612566, .int p612567, .ref q612555, .ref (γ 9 29), .int p612568, .ref (γ 9 31), .int p612569, .int p612570, .int p612571, .ref q612556]) := (n612658 q572432 (rn_oo he612650 he612651 (by decide))).trans he612650
                              have he612661 : F612656 q612504 = .inr (20, [.int 23, .int p612615, .int p612352, .int p612617, .int z612433, .int 1, .int p612620]) := e612657
                              have mk612662 : mKp (F572431 q572432) (F612656 q572432) := mKp_tr mk612652 (mKp_eq (n612658 q572432 (rn_ty ht612537 ht612608 (by decide))))
                              have n612663 : ∀ b, b ≠ q612504 → F612656 b = F612503 b := fun b hb => (n612658 b hb).trans (n612653 b hb)
                              have kp612664 : F612656 (γ0 9 3) = F572431 (γ0 9 3) := (n612658 (γ0 9 3) (rn_ty (rSk_k hs612533 k0_3 (by decide) (by decide)) ht612608 (by decide))).trans kp612654
                              have kp612665 : F612656 (γ0 9 19) = F607300 (γ0 9 19) := (n612658 (γ0 9 19) (rn_ty (rSk_k hs612533 k0_19 (by decide) (by decide)) ht612608 (by decide))).trans kp612655
                              obtain ⟨z612666, hz612666⟩ : ∃ z : Int32, z = g612307 + Int32.ofInt 1 := ⟨_, rfl⟩
                              have ez612666 : z612666.toInt = g612307.toInt + 1 := gI_inc hz612666 (by decide) bg612307 (by decide) (by decide)
                              have bz612666 : gB z612666 1 1000002 := ⟨by omega, by omega⟩
                              refine G_iinc (L' := [(4, .int z612666), (9, .ref q612504), (8, .int z612433), (0, .ref q572432), (1, .ref q572433), (2, .int g610551), (3, .ref q610691), (5, .ref q612308)]) z612666 6 dr_cX17_spill_405 rfl hz612666.symm (Nat.le_of_ble_eq_true rfl) rfl ?_
                              refine G_aload_n 6 dr_cX17_spill_408 rfl ?_
                              have hT612667 : RS D I P612502 F612656 γ el := RS_set hT612532 n612663 ht612608 (by decide) ⟨23, p612615, p612352, p612617, z612433, 1, p612620, he612661, (gB_w (gBl (show Int32.toInt 23 = 23 by decide)) (by decide) (by decide)), bp612615, bz612433', (gB_w (gBl (show Int32.toInt 1 = 1 by decide)) (by decide) (by decide)), (gB_w bp612620' (by decide) (by decide)), (Or.inr (by decide)), (Or.inr bp612352'), (gHe r612623)⟩
                              have hs612669 := rSk_put hs612533 hT612667 n612663 ht612608 (by decide) (by decide)
                              have hm612670 : q610691 ∈ P612502 := RS_m hT612667 ht612540 (by decide)
                              obtain ⟨q612672, q612673, p612674, p612675, he612671, ht612682, ht612676, ht612677, ht612678, ht612679, ht612680, bp612674, bp612675, r612681, r612683, r612684⟩ := show rk_2 γ q610691 (F612656 q610691) from RS_o hT612667 ht612540
                              have hf612685 : γ 1 q612672 = f := (show γ 1 q612672 = γ 1 q610691 from ht612677).trans hf612541
                              have hf612686 : γ 1 q612673 = f := (show γ 1 q612673 = γ 1 q610691 from ht612679).trans hf612541
                              have r612687 : γ 6 (γ 1 q610691) = γ 6 f := by rw [hf612541]
                              have r612688 : γ 7 (γ 1 q610691) = γ 7 f := by rw [hf612541]
                              have r612689 : γ 19 (γ 1 q610691) = γ 19 f := by rw [hf612541]
                              have r612690 := r612681.resolve_left (by omega)
                              clear r612681
                              have r612691 : γ 2 (γ 14 q610691) = γ 2 q612672 := by rw [ht612682.1]
                              refine Gp_get 0 hm612670 he612671 dr_cX17_spill_409 (gk_X12 D I) (Nat.le_of_ble_eq_true rfl) wr_9_216 rfl ?_
                              refine G_iload 0 dr_cX17_spill_412 rfl ?_
                              refine G_aload 1 dr_cX17_spill_414 rfl ?_
                              have pl612692 := rPl_fr hT612532 ht612538 hf612539 pl612511 (fun b hb _ => n612663 b (rn_ty (show rKd γ b 1 from hb) ht612608 (by decide)))
                              have rg612693 := rM_ge hT612667 ht612538 hf612539
                              have rm612694 := rM_bd hB612607
                              have bd612695 := rBd_c hT612667 ht612538 hf612539 hB612607
                              have rc612696 := rc_at hT612667 ht612538 hf612539
                              have r612698 : γ 14 (el (γ 14 q572433) g610551.toInt.toNat) = q612672 := by rw [r612550]; exact ht612682.1
                              have r612699 := rg612693.2.2 _ r612549
                              rw [r612698] at r612699
                              have r612700 := bd612695.2.2.2 _ r612549
                              rw [r612698] at r612700
                              have r612701 : γ 7 (γ 1 q612504) = γ 7 f := by rw [x1612514]
                              have hx612702 : rk_1 γ q612504 (F612656 q612504) := ⟨23, p612615, p612352, p612617, z612433, 1, p612620, he612661, (gB_w (gBl (show Int32.toInt 23 = 23 by decide)) (by decide) (by decide)), bp612615, bz612433', (gB_w (gBl (show Int32.toInt 1 = 1 by decide)) (by decide) (by decide)), (gB_w bp612620' (by decide) (by decide)), (Or.inr (by decide)), (Or.inr bp612352'), (gHe r612623), (Or.inr (by omega)), (Or.inl x22612515)⟩
                              refine Gt_ins (c := q572433) (f := f) hl0 dr_cX17_spill_416 ⟨wr_10_203, wr_1_18, wr_10_206, by decide, rfl, (Nat.le_of_ble_eq_true rfl), (Nat.le_of_ble_eq_true rfl)⟩ wr_10_204 wr_10_205 hT612667 ht612676 hf612685 ht612608 x1612514 x22612515 r612609 (by omega) ht612538 hf612539 r612549 r612698 hx612702 (by omega) (by omega) (Nat.le_trans r612700 (Nat.le_trans hBk (by decide))) (rm_cs hph612610 r612699 rm612694 (by decide)) (rm_sl hph612610 r612699 rm612694 rm_s11) (Nat.le_of_ble_eq_true rfl) (fun P612703 F612697 γ el dc612704 ds612705 hq612706 => ?_)
                              have pl612707 := sp_ins (j1 := ((g612307.toInt : Int).toNat + 1) + 1) hT612667 ht612538 hf612539 hq612706 r612698 (tn_lt (by omega) (by omega)) (tn_le0 (by omega) (by omega)) (by rw [(show z612666.toInt.toNat = ((g612307.toInt : Int).toNat + 1) from tn_eq1 (by omega) (by omega))]; exact pl612692) (nm_sto he612661 (by decide)).1 (nm_sto he612661 (by decide)).2 (tn_ge (show 100 ≤ p612352.toInt by omega)) (congrArg (fun k => k + 1) (show z612666.toInt.toNat = ((g612307.toInt : Int).toNat + 1) from tn_eq1 (by omega) (by omega)).symm)
                              obtain ⟨hk612708, x0612709, h2612710, hel612711, hot612712, h16612713, h18612714, hnu612715, hFx612716, hr612717, hM612718, hBB612719⟩ := hq612706
                              have hk612720 := rSk_of hk612708
                              have r612721 : (fI (F612697 q572433) 3).toInt = (fI (F612656 q572433) 3).toInt := by rw [rSk_F hk612720 ht612538 (by decide) (by decide)]
                              obtain ⟨nu612722, nu612723, nu612724, nu612725⟩ := hnu612715
                              have hT612726 := hk612720.1
                              have hs612727 := rSk_tr hs612669 hk612720 (by decide) (by decide) (by decide)
                              have kp612728 : F612697 (γ0 9 3) = F572431 (γ0 9 3) := (rSk_F hk612720 (rSk_k hs612669 k0_3 (by decide) (by decide)) (by decide) (by decide)).trans kp612664
                              have kp612729 : F612697 (γ0 9 19) = F607300 (γ0 9 19) := (rSk_F hk612720 (rSk_k hs612669 k0_19 (by decide) (by decide)) (by decide) (by decide)).trans kp612665
                              have r612730 := rSk_F hk612720 ht612537 (by decide) (by decide)
                              have ht612731 : rKd γ q572432 10 := rSk_k hk612720 ht612537 (by decide) (by decide)
                              have ht612732 : rKd γ q572433 9 := rSk_k hk612720 ht612538 (by decide) (by decide)
                              have hf612733 : γ 1 q572433 = f := rSk_1 hk612720 ht612538 (by decide) hf612539
                              have ht612734 : rKd γ q610691 2 := rSk_k hk612720 ht612540 (by decide) (by decide)
                              have hf612735 : γ 1 q610691 = f := rSk_1 hk612720 ht612540 (by decide) hf612541
                              have ht612736 : rKd γ q612308 1 := rSk_k hk612720 ht612542 (by decide) (by decide)
                              have hf612737 : γ 1 q612308 = f := rSk_1 hk612720 ht612542 (by decide) hf612543
                              have ht612738 : rKd γ q612459 3 := rSk_k hk612720 ht612544 (by decide) (by decide)
                              have hf612739 : γ 1 q612459 = f := rSk_1 hk612720 ht612544 (by decide) hf612545
                              have ht612740 : rKd γ q612672 3 := rSk_k hk612720 ht612676 (by decide) (by decide)
                              have hf612741 : γ 1 q612672 = f := rSk_1 hk612720 ht612676 (by decide) hf612685
                              have mk612742 : mKp (F572431 q572432) (F612697 q572432) := mKp_tr mk612662 (mKp_eq (rSk_F hk612720 ht612537 (by decide) (by decide)))
                              have r612743 := (rSk_s hk612720 ht612538 (by decide)).2.1
                              have r612744 := hot612712 _ (by rw [rc612696.2.1]; decide) (fun q => by rw [q, show _ = 3 from ht612676] at rc612696; exact absurd rc612696.2.1 (by decide))
                              have r612745 : g610551.toInt.toNat < γ 2 (γ 14 q572433) := by rw [r612743, r612744.1]; exact r612549
                              have r612746 : el (γ 14 q572433) g610551.toInt.toNat = q610691 := by rw [r612743, r612744.2]; exact r612550
                              have he612747 : F612697 q612308 = .inr (20, [.int p612394, .int p612352, .int p612396, .int p612397, .int p612398, .int p612399, .int p612400]) := (rSk_F hk612720 ht612542 (by decide) (by decide)).trans he612659
                              have hm612748 : q612308 ∈ P612703 := RS_m hT612726 ht612736 (by decide)
                              clear bp612614 bp612615 bp612618 bp612619 bp612620 bp612616 bp612617 bp612674 bp612675 r612683 r612684 rg612693 rm612694 bd612695 rc612696 r612699 r612700
                              clear r612621 r612622 r612623
                              have hm612749 : q572432 ∈ P612703 := RS_m hT612726 ht612731 (by decide)
                              refine rk10_e (show rk_10 γ (F612697 q572432) from RS_o hT612726 ht612731) (fun q612751 q612752 p612753 p612754 p612755 p612756 p612757 p612758 p612759 p612760 p612761 p612762 p612763 p612764 p612765 p612766 p612767 he612750 hB612794 ht612768 ht612769 ht612770 ht612771 ht612772 ht612773 ht612774 ht612775 ht612776 ht612777 ht612778 ht612779 ht612780 ht612781 ht612782 ht612783 ht612784 ht612785 ht612786 ht612787 ht612788 ht612789 ht612790 ht612791 hB612795 => ?_)
                              have r612796 : p612755.toInt = p612559.toInt := by have z : p612755 = p612559 := congrArg (fun e => fI e 11) (he612750.symm.trans (r612730.trans he612660)); rw [z]
                              have bp612755 : gB p612755 0 100 := (hB612794.2.2.1)
                              have r612797 : p612758.toInt = p612562.toInt := by have z : p612758 = p612562 := congrArg (fun e => fI e 14) (he612750.symm.trans (r612730.trans he612660)); rw [z]
                              have bp612758 : gB p612758 0 2000 := (hB612794.2.2.2.1)
                              have bp612758' : gB p612758 1 2000 := ⟨by omega, by omega⟩
                              first | have sz612798 := (hot612712 q612459 (rT0 ht612544 (by decide)) (by assumption)).1 | skip
                              have ht612799 : rKd γ q612504 1 := x0612709
                              have hB612800 : rBd γ el f B := hBB612719 B hB612607
                              have hph612801 : rPh γ0 el0 f ≤ rPh γ el f := rm_ph hph612610 hr612717.2
                              have pk612802 : rPh γ el f ≤ 387 * B + 6000 := rm_pk (rM_ge hT612726 ht612732 hf612733).1 (rM_bd hB612800)
                              refine G_widen (cs' := ((rPh γ el f - rPh γ0 el0 f) / 18)) (sl' := (rPh γ el f - rPh γ0 el0 f)) (rm_wc hph612610 hr612717.1) (rm_ws hph612610 hr612717.2) ?_
                              have r612803 : γ 14 q610691 = q612672 := ((rSk_s (rSk_of hk612708) ht612540 (by decide)).2.1).trans ht612682.1
                              have sz612804 : γ 2 (γ 14 q610691) = γ 2 q612672 := by rw [r612803]
                              obtain ⟨z612805, hz612805⟩ : ∃ z : Int32, z = z612666 + Int32.ofInt 1 := ⟨_, rfl⟩
                              have ez612805 : z612805.toInt = z612666.toInt + 1 := gI_inc hz612805 (by decide) bz612666 (by decide) (by decide)
                              have bz612805 : gB z612805 2 1000003 := ⟨by omega, by omega⟩
                              refine G_iinc (L' := [(4, .int z612805), (9, .ref q612504), (8, .int z612433), (0, .ref q572432), (1, .ref q572433), (2, .int g610551), (3, .ref q610691), (5, .ref q612308)]) z612805 0 dr_cX17_spill_419 rfl hz612805.symm (Nat.le_of_ble_eq_true rfl) rfl ?_
                              refine G_goto 90 dr_cX17_spill_422 (by decide +kernel) ?_
                              refine G_lv (L' := [(4, .int z612805), (3, .ref q610691), (2, .int g610551), (0, .ref q572432), (1, .ref q572433)]) [0, 6, 5, 3, 4] rfl ?_
                              have ac612806 : (fI (F612697 q572432) 11).toInt = p612755.toInt := by rw [he612750]; rfl
                              have ac612807 : (fI (F612697 q572432) 14).toInt = p612758.toInt := by rw [he612750]; rfl
                              exact ih90_612208 P612703 F612697 γ el z612805 (gB_w bz612805 (by decide) (by decide)) hT612726 hs612727 hph612801 hB612800 ht612734 hf612735 r612745 r612746 (by omega) (by omega) (by omega) (by omega) (by omega) (by omega) kp612729 (by rw [(show (z612805.toInt : Int).toNat = (((g612307.toInt : Int).toNat + 1) + 1) from tn_eq2 (by omega) (by omega))]; exact pl612707) (by omega) (by omega) kp612728 mk612742 (ms_g x612333 (by omega) (by omega) (by omega))
                            · have r612808 : p612352.toInt = 2000 := gj_eq hc612440 (show Int32.toInt 2000 = 2000 by decide)
                              have bp612352' : gB p612352 2000 2000 := ⟨by omega, by omega⟩
                              refine G_iconst 0 dr_cX17_spill_348 (by decide +kernel) ?_
                              exact G_zretA FieldType.boolean dr_cX17_spill_349 rfl rfl (rm_zc pk612341) (rm_zs pk612341) ⟨P612309, F612310, γ, el, 0, rfl, rfl, hs612312, (rm_pp hph612313), hB612314, (gB_w (gBl (show Int32.toInt 0 = 0 by decide)) (by decide) (by decide)), (by have qa0 : Int32.toInt 0 = 0 := (by decide); omega), (Or.inl (by decide)), x612335, x612336⟩
                          · have r612809 : z612433.toInt < 0 := gj_nleL hc612437 (show Int32.toInt 0 = 0 by decide)
                            have bz612433' : gB z612433 (-1) (-1) := ⟨by omega, by omega⟩
                            refine G_goto 419 dr_cX17_spill_323 (by decide +kernel) ?_
                            have rn612811 : rNx (nSp (cB (F572431 (γ0 9 3))) (cB (F607300 (γ0 9 19)))) (F612310 q612308) := rS2_n he612393 he612393 x612330 (fun _ => Or.inr ⟨rfl, Or.inr (by omega)⟩)
                            have pl612810 := sp_fin x612328 x612329 rn612811 (rfl : (g612307.toInt : Int).toNat + 1 = (g612307.toInt : Int).toNat + 1)
                            obtain ⟨z612812, hz612812⟩ : ∃ z : Int32, z = g612307 + Int32.ofInt 1 := ⟨_, rfl⟩
                            have ez612812 : z612812.toInt = g612307.toInt + 1 := gI_inc hz612812 (by decide) bg612307 (by decide) (by decide)
                            have bz612812 : gB z612812 1 1000002 := ⟨by omega, by omega⟩
                            refine G_iinc (L' := [(4, .int z612812), (0, .ref q572432), (1, .ref q572433), (2, .int g610551), (3, .ref q610691), (5, .ref q612308)]) z612812 4 dr_cX17_spill_419 rfl hz612812.symm (Nat.le_of_ble_eq_true rfl) rfl ?_
                            refine G_goto 90 dr_cX17_spill_422 (by decide +kernel) ?_
                            refine G_lv (L' := [(4, .int z612812), (3, .ref q610691), (2, .int g610551), (0, .ref q572432), (1, .ref q572433)]) [0, 4, 3, 1, 2] rfl ?_
                            have ac612813 : (fI (F612310 q572432) 11).toInt = p612349.toInt := by rw [he612344]; rfl
                            have ac612814 : (fI (F612310 q572432) 14).toInt = p612352.toInt := by rw [he612344]; rfl
                            exact ih90_612208 P612309 F612310 γ el z612812 (gB_w bz612812 (by decide) (by decide)) hT612311 hs612312 hph612313 hB612314 ht612315 hf612316 r612317 r612318 (by omega) (by omega) (by omega) (by omega) (by omega) (by omega) x612327 (by rw [(show (z612812.toInt : Int).toNat = ((g612307.toInt : Int).toNat + 1) from tn_eq1 (by omega) (by omega))]; exact pl612810) (by omega) (by omega) x612335 x612336 (ms_g x612333 (by omega) (by omega) (by omega))
                    have jn236_612846 : ∀ (P612819 : List Nat) (F612820 : Nat → va_E) (γ el : Nat → Nat → Nat) (g612815 : Int32) (q612816 : Nat) (g612817 : Int32) (g612818 : Int32), gB g612815 0 1000001 → gB g612817 (-1) 1999 → gB g612818 (-1) 1999 → RS D I P612819 F612820 γ el → rSk f [101] ([1, 3, 5, 6, 8, 9, 101] ++ npk) D I P572430 F572431 γ0 el0 P612819 F612820 γ el → rPh γ0 el0 f ≤ rPh γ el f → rBd γ el f B → rKd γ q610691 2 → γ 1 q610691 = f → g610551.toInt.toNat < γ 2 (γ 14 q572433) → el (γ 14 q572433) g610551.toInt.toNat = q610691 → rKd γ q612816 1 → γ 1 q612816 = f → γ 6 f = γ0 6 f → γ 18 f = γ0 18 f → ((γ 7 f : Nat) : Int) = (fI (F612820 q572432) 11).toInt → (fI (F612820 q572432) 11).toInt = (fI (F607300 q572432) 11).toInt → ((γ 16 f : Nat) : Int) + 2001 ≤ (B : Int) + (fI (F612820 q572432) 14).toInt → 100 ≤ (fI (F612820 q572432) 14).toInt → (F612820 (γ0 9 19) = F607300 (γ0 9 19)) → rPl γ el F612820 q572433 (γ 6 f) (spX (cB (F572431 (γ0 9 3))) (cB (F607300 (γ0 9 19))) (g610551.toInt : Int).toNat (g612815.toInt : Int).toNat) → rAt γ el q572433 (g610551.toInt : Int).toNat (g612815.toInt : Int).toNat = q612816 → rS1 (cB (F572431 (γ0 9 3))) (cB (F607300 (γ0 9 19))) (F612820 q612816) g612817.toInt g612818.toInt → (g612815.toInt : Int) ≤ γ 2 (γ 14 q610691) → (g610551.toInt : Int) < γ 6 f → (γ 2 (γ 14 q610691) + 1 - (g612815.toInt : Int).toNat) < n90_612208 + 1 → eO g612815.toInt (γ 2 (γ 14 q610691) : Nat) (fI (F612820 q612816) 0).toInt → (F612820 (γ0 9 3) = F572431 (γ0 9 3)) → mKp (F572431 q572432) (F612820 q572432) → G (gV D I) l (gRm 9 195 (((387 * B + 6000) - rPh γ0 el0 f) / 18) ((387 * B + 6000) - rPh γ0 el0 f)) (gMA (gV D I) (pg_572440_SpillForgeModel_spill D I γ0 el0 f B P572430 F572431 q572432 q572433) gNA (((387 * B + 6000) - rPh γ0 el0 f) / 18) ((387 * B + 6000) - rPh γ0 el0 f)) ky_572440_SpillForgeModel_spill 236 [(0, .ref q572432), (1, .ref q572433), (2, .int g610551), (3, .ref q610691), (4, .int g612815), (5, .ref q612816), (6, .int g612817), (7, .int g612818)] [] (va_pl P612819 F612820) ((rPh γ el f - rPh γ0 el0 f) / 18) (rPh γ el f - rPh γ0 el0 f) := by
                      intro P612819 F612820 γ el g612815 q612816 g612817 g612818 bg612815 bg612817 bg612818 hT612821 hs612822 hph612823 hB612824 ht612825 hf612826 r612827 r612828 ht612829 hf612830 x612831 x612832 x612833 x612834 x612835 x612836 x612837 x612838 x612839 x612840 x612841 x612842 x612843 x612844 x612845 x612846
                      clear bp612268 bp612269 r612277 r612278 r612281 r612282 r612283 r612284 r612285 r612291 r612292 r612293 r612295 r612294
                      have ht612848 : rKd γ q572432 10 := rSk_k hs612822 hzq572432 (by decide) (by decide)
                      have ht612849 : rKd γ q572433 9 := rSk_k hs612822 hzq572433 (by decide) (by decide)
                      have hf612850 : γ 1 q572433 = f := rSk_1 hs612822 hzq572433 (by decide) hf0
                      have pk612851 : rPh γ el f ≤ 387 * B + 6000 := rm_pk (rM_ge hT612821 ht612849 hf612850).1 (rM_bd hB612824)
                      have r612852 : 0 < γ 6 (γ 1 q572433) := by rw [hf612850]; omega
                      have hm612853 : q572432 ∈ P612819 := RS_m hT612821 ht612848 (by decide)
                      refine rk10_e (show rk_10 γ (F612820 q572432) from RS_o hT612821 ht612848) (fun q612855 q612856 p612857 p612858 p612859 p612860 p612861 p612862 p612863 p612864 p612865 p612866 p612867 p612868 p612869 p612870 p612871 he612854 hB612898 ht612872 ht612873 ht612874 ht612875 ht612876 ht612877 ht612878 ht612879 ht612880 ht612881 ht612882 ht612883 ht612884 ht612885 ht612886 ht612887 ht612888 ht612889 ht612890 ht612891 ht612892 ht612893 ht612894 ht612895 hB612899 => ?_)
                      have ac612900 : (fI (F612820 q572432) 11).toInt = p612859.toInt := by rw [he612854]; rfl
                      have bp612859 : gB p612859 0 100 := (hB612898.2.2.1)
                      have ac612901 : (fI (F612820 q572432) 14).toInt = p612862.toInt := by rw [he612854]; rfl
                      have bp612862 : gB p612862 0 2000 := (hB612898.2.2.2.1)
                      have hm612902 : q612816 ∈ P612819 := RS_m hT612821 ht612829 (by decide)
                      obtain ⟨p612904, p612905, p612906, p612907, p612908, p612909, p612910, he612903, bp612904, bp612905, bp612908, bp612909, bp612910, r612911, r612912, r612913, r612914, r612915⟩ := show rk_1 γ q612816 (F612820 q612816) from RS_o hT612821 ht612829
                      have bp612906 := gB_any p612906
                      have bp612907 := gB_any p612907
                      replace r612911 : gH _ := r612911
                      replace r612912 : gH _ := r612912
                      replace r612913 : gH _ := r612913
                      replace r612914 : gH _ := r612914
                      replace r612915 : gH _ := r612915
                      have r612916 : γ 7 (γ 1 q612816) = γ 7 f := by rw [hf612830]
                      refine G_iload 7 dr_cX17_spill_236 rfl ?_
                      refine G_if_lt 292 dr_cX17_spill_238 (by decide +kernel) (fun hc612917 => ?_) (fun hc612917 => ?_)
                      · have r612918 : g612818.toInt < 0 := gj_lt hc612917 (show Int32.toInt 0 = 0 by decide)
                        have bg612818' : gB g612818 (-1) (-1) := ⟨by omega, by omega⟩
                        have ac612919 : (fI (F612820 q572432) 11).toInt = p612859.toInt := by rw [he612854]; rfl
                        have ac612920 : (fI (F612820 q572432) 14).toInt = p612862.toInt := by rw [he612854]; rfl
                        refine G_lv (L' := [(0, .ref q572432), (1, .ref q572433), (2, .int g610551), (3, .ref q610691), (4, .int g612815), (5, .ref q612816)]) [0, 1, 2, 3, 4, 5] rfl ?_
                        exact jn292_612336 P612819 F612820 γ el g612815 q612816 bg612815 hT612821 hs612822 hph612823 hB612824 ht612825 hf612826 r612827 r612828 ht612829 hf612830 (by omega) (by omega) (by omega) (by omega) (by omega) (by omega) x612837 (by exact x612838) (by exact x612839) (rS1_2 x612840 (Or.inl (by omega))) (by omega) (by omega) (ms_j x612843 (by omega) (by omega) (by omega)) (eO_j x612844 (by rw [he612903] <;> rfl) (by rw [he612903] <;> rfl) (by omega)) x612845 x612846
                      · have r612921 : 0 ≤ g612818.toInt := gj_nlt hc612917 (show Int32.toInt 0 = 0 by decide)
                        have bg612818' : gB g612818 0 1999 := ⟨by omega, by omega⟩
                        refine G_iload 7 dr_cX17_spill_241 rfl ?_
                        refine G_iload 6 dr_cX17_spill_243 rfl ?_
                        refine G_icmp_eq 292 dr_cX17_spill_245 (by decide +kernel) (fun hc612922 => ?_) (fun hc612922 => ?_)
                        · have r612923 : g612818.toInt = g612817.toInt := gC_eq hc612922
                          have bg612817' : gB g612817 0 1999 := ⟨by omega, by omega⟩
                          have ac612924 : (fI (F612820 q572432) 11).toInt = p612859.toInt := by rw [he612854]; rfl
                          have ac612925 : (fI (F612820 q572432) 14).toInt = p612862.toInt := by rw [he612854]; rfl
                          refine G_lv (L' := [(0, .ref q572432), (1, .ref q572433), (2, .int g610551), (3, .ref q610691), (4, .int g612815), (5, .ref q612816)]) [0, 1, 2, 3, 4, 5] rfl ?_
                          exact jn292_612336 P612819 F612820 γ el g612815 q612816 bg612815 hT612821 hs612822 hph612823 hB612824 ht612825 hf612826 r612827 r612828 ht612829 hf612830 (by omega) (by omega) (by omega) (by omega) (by omega) (by omega) x612837 (by exact x612838) (by exact x612839) (rS1_2 x612840 (Or.inr (Or.inl (by omega)))) (by omega) (by omega) (ms_j x612843 (by omega) (by omega) (by omega)) (eO_j x612844 (by rw [he612903] <;> rfl) (by rw [he612903] <;> rfl) (by omega)) x612845 x612846
                        · have r612926 : g612818.toInt ≠ g612817.toInt := gC_ne hc612922
                          refine G_aload_n 0 dr_cX17_spill_248 rfl ?_
                          refine Gp_get 19 hm612853 he612854 dr_cX17_spill_249 (gk_X17 D I) (Nat.le_of_ble_eq_true rfl) wr_7_93 rfl ?_
                          refine G_iload 7 dr_cX17_spill_252 rfl ?_
                          have hm612927 : (γ 9 19) ∈ P612819 := RS_m hT612821 ht612887 (by decide)
                          obtain ⟨f612929, he612928, bf612929⟩ := show rk_21 I (F612820 (γ 9 19)) from RS_o hT612821 ht612887
                          refine Gp_iald 0 hm612927 he612928 dr_cX17_spill_254 rfl (gB_in bg612818' (by decide) (by decide)) (G_nam fun z612930 hz612930 => ?_)
                          have bz612930 : gB z612930 (-1) 1999 := by rw [hz612930]; exact bf612929 _
                          have c9_612931 : cB (F607300 (γ0 9 19)) = f612929 := by rw [← x612837, ← congrFun (rSk_9 hs612822) 19]; exact cB_of he612928
                          have hs612932 : (cB (F607300 (γ0 9 19)) g612818.toInt.toNat).toInt = z612930.toInt := by rw [c9_612931, hz612930]; rfl
                          refine G_if_lt 292 dr_cX17_spill_255 (by decide +kernel) (fun hc612934 => ?_) (fun hc612934 => ?_)
                          · have r612935 : z612930.toInt < 0 := gj_lt hc612934 (show Int32.toInt 0 = 0 by decide)
                            have bz612930' : gB z612930 (-1) (-1) := ⟨by omega, by omega⟩
                            have ac612936 : (fI (F612820 q572432) 11).toInt = p612859.toInt := by rw [he612854]; rfl
                            have ac612937 : (fI (F612820 q572432) 14).toInt = p612862.toInt := by rw [he612854]; rfl
                            refine G_lv (L' := [(0, .ref q572432), (1, .ref q572433), (2, .int g610551), (3, .ref q610691), (4, .int g612815), (5, .ref q612816)]) [0, 1, 2, 3, 4, 5] rfl ?_
                            exact jn292_612336 P612819 F612820 γ el g612815 q612816 bg612815 hT612821 hs612822 hph612823 hB612824 ht612825 hf612826 r612827 r612828 ht612829 hf612830 (by omega) (by omega) (by omega) (by omega) (by omega) (by omega) x612837 (by exact x612838) (by exact x612839) (rS1_2 x612840 (Or.inr (Or.inr (by omega)))) (by omega) (by omega) (ms_j x612843 (by omega) (by omega) (by omega)) (eO_j x612844 (by rw [he612903] <;> rfl) (by rw [he612903] <;> rfl) (by omega)) x612845 x612846
                          · have r612938 : 0 ≤ z612930.toInt := gj_nlt hc612934 (show Int32.toInt 0 = 0 by decide)
                            have bz612930' : gB z612930 0 1999 := ⟨by omega, by omega⟩
                            refine G_aload_n 0 dr_cX17_spill_258 rfl ?_
                            refine G_aload_n 1 dr_cX17_spill_259 rfl ?_
                            refine G_aload_n 3 dr_cX17_spill_260 rfl ?_
                            refine G_iload 4 dr_cX17_spill_261 rfl ?_
                            refine G_aload_n 0 dr_cX17_spill_263 rfl ?_
                            refine Gp_get 19 hm612853 he612854 dr_cX17_spill_264 (gk_X17 D I) (Nat.le_of_ble_eq_true rfl) wr_7_93 rfl ?_
                            refine G_iload 7 dr_cX17_spill_267 rfl ?_
                            refine Gp_iald 0 hm612927 he612928 dr_cX17_spill_269 rfl (gB_in bg612818' (by decide) (by decide)) (G_eqi (y := z612930) hz612930.symm ?_)
                            have hm612939 : q610691 ∈ P612819 := RS_m hT612821 ht612825 (by decide)
                            obtain ⟨q612941, q612942, p612943, p612944, he612940, ht612951, ht612945, ht612946, ht612947, ht612948, ht612949, bp612943, bp612944, r612950, r612952, r612953⟩ := show rk_2 γ q610691 (F612820 q610691) from RS_o hT612821 ht612825
                            have hf612954 : γ 1 q612941 = f := (show γ 1 q612941 = γ 1 q610691 from ht612946).trans hf612826
                            have hf612955 : γ 1 q612942 = f := (show γ 1 q612942 = γ 1 q610691 from ht612948).trans hf612826
                            have r612956 : γ 6 (γ 1 q610691) = γ 6 f := by rw [hf612826]
                            have r612957 : γ 7 (γ 1 q610691) = γ 7 f := by rw [hf612826]
                            have r612958 : γ 19 (γ 1 q610691) = γ 19 f := by rw [hf612826]
                            have r612959 := r612950.resolve_left (by omega)
                            clear r612950
                            have r612960 : γ 2 (γ 14 q610691) = γ 2 q612941 := by rw [ht612951.1]
                            have hm612961 : q612941 ∈ P612819 := RS_m hT612821 ht612945 (by decide)
                            obtain ⟨⟨p612963, p612964, q612965, he612962, r612966, r612967, r612968, r612970⟩, r612969⟩ := show rk_3 D I γ el F612820 q612941 from RS_o hT612821 ht612945
                            have bp612963 := gB_any p612963
                            have bp612964 : gB p612964 0 1000000 := ⟨by omega, by omega⟩
                            have r612971 := (spi607385.2.2.2 g612818.toInt.toNat (tn_lt (by omega) (by omega)) (by omega)).2.2
                            have ac612972 : (fI (F612820 q572432) 11).toInt = p612859.toInt := by rw [he612854]; rfl
                            have ac612973 : (fI (F612820 q572432) 14).toInt = p612862.toInt := by rw [he612854]; rfl
                            have rg612974 := rM_ge hT612821 ht612849 hf612850
                            have rm612975 := rM_bd hB612824
                            have bd612976 := rBd_c hT612821 ht612849 hf612850 hB612824
                            have rc612977 := rc_at hT612821 ht612849 hf612850
                            refine Gw_callV (As := [.ref q572433, .ref q610691, .int g612815, .int z612930]) (gV_ok D I) (cg_398156_SpillForgeModel_load l hl0 D I γ el f B P612819 F612820 q572432 q572433 q610691 g612815 z612930 g610551.toInt.toNat hT612821 ht612848 ht612849 ht612825 hf612850 hB612824 hBk r612827 r612828 hf612826 ⟨by omega, by omega⟩ bz612930' (by omega) (by omega) (by omega) (by omega) (by omega)) dr_cX17_spill_270 ⟨wr_11_63, wr_1_14, wr_11_66, by decide, rfl, (Nat.le_of_ble_eq_true rfl), (Nat.le_of_ble_eq_true rfl)⟩ wr_11_65 wr_p_111 hm612853 he612854 rfl (rm_gc hph612823 pk612851) (rm_gs hph612823 pk612851) (Nat.le_of_ble_eq_true rfl) (fun r612981 w612982 dc612978 ds612979 hp612980 => ?_) (fun _ _ _ _ _ z => z.elim)
                            obtain ⟨P612993, F612994, γ, el, o612983, rfl, rfl, hk612995, ⟨hr612996, hr612997⟩, hB612998, bo612983, x612984, x612985, x612986, x612987, x612988, x612989, x612990, x612991, x612992⟩ := hp612980
                            have hT612999 := hk612995.1
                            have hs613000 := rSk_tr hs612822 hk612995 (by decide) (by decide) (by decide)
                            have kp613001 : F612994 (γ0 9 3) = F572431 (γ0 9 3) := (rSk_F hk612995 (rSk_k hs612822 k0_3 (by decide) (by decide)) (by decide) (by decide)).trans x612845
                            have kp613002 : F612994 (γ0 9 19) = F607300 (γ0 9 19) := (rSk_F hk612995 (rSk_k hs612822 k0_19 (by decide) (by decide)) (by decide) (by decide)).trans x612837
                            have ht613003 : rKd γ q572432 10 := rSk_k hk612995 ht612848 (by decide) (by decide)
                            have ht613004 : rKd γ q572433 9 := rSk_k hk612995 ht612849 (by decide) (by decide)
                            have hf613005 : γ 1 q572433 = f := rSk_1 hk612995 ht612849 (by decide) hf612850
                            have ht613006 : rKd γ q610691 2 := rSk_k hk612995 ht612825 (by decide) (by decide)
                            have hf613007 : γ 1 q610691 = f := rSk_1 hk612995 ht612825 (by decide) hf612826
                            have ht613008 : rKd γ q612816 1 := rSk_k hk612995 ht612829 (by decide) (by decide)
                            have hf613009 : γ 1 q612816 = f := rSk_1 hk612995 ht612829 (by decide) hf612830
                            have ht613010 : rKd γ q612941 3 := rSk_k hk612995 ht612945 (by decide) (by decide)
                            have hf613011 : γ 1 q612941 = f := rSk_1 hk612995 ht612945 (by decide) hf612954
                            have he613012 : F612994 q612816 = .inr (20, [.int p612904, .int p612905, .int p612906, .int p612907, .int p612908, .int p612909, .int p612910]) := (rSk_F hk612995 ht612829 (by decide) (by decide)).trans he612903
                            have hm613013 : q612816 ∈ P612993 := RS_m hT612999 ht613008 (by decide)
                            clear bp612943 bp612944 r612952 r612953 rg612974 rm612975 bd612976 rc612977
                            have mk613014 : mKp (F572431 q572432) (F612994 q572432) := mKp_tr x612846 x612992
                            have hph613015 : rPh γ0 el0 f ≤ rPh γ el f := rm_ph hph612823 hr612997
                            have pk613016 : rPh γ el f ≤ 387 * B + 6000 := rm_pk (rM_ge hT612999 ht613004 hf613005).1 (rM_bd hB612998)
                            change G _ _ _ _ _ _ _ (.int o612983 :: _) _ _ _
                            refine G_widen (cs' := ((rPh γ el f - rPh γ0 el0 f) / 18)) (sl' := (rPh γ el f - rPh γ0 el0 f)) (rm_wc hph612823 hr612996) (rm_ws hph612823 hr612997) ?_
                            have sz613017 := x612984
                            have r613018 : 0 < γ 6 (γ 1 q572433) := by rw [hf613005]; omega
                            have hm613019 : q572432 ∈ P612993 := RS_m hT612999 ht613003 (by decide)
                            refine rk10_e (show rk_10 γ (F612994 q572432) from RS_o hT612999 ht613003) (fun q613021 q613022 p613023 p613024 p613025 p613026 p613027 p613028 p613029 p613030 p613031 p613032 p613033 p613034 p613035 p613036 p613037 he613020 hB613064 ht613038 ht613039 ht613040 ht613041 ht613042 ht613043 ht613044 ht613045 ht613046 ht613047 ht613048 ht613049 ht613050 ht613051 ht613052 ht613053 ht613054 ht613055 ht613056 ht613057 ht613058 ht613059 ht613060 ht613061 hB613065 => ?_)
                            have ac613066 : (fI (F612994 q572432) 11).toInt = p613025.toInt := by rw [he613020]; rfl
                            have bp613025 : gB p613025 0 100 := (hB613064.2.2.1)
                            have ac613067 : (fI (F612994 q572432) 14).toInt = p613028.toInt := by rw [he613020]; rfl
                            have bp613028 : gB p613028 0 2000 := (hB613064.2.2.2.1)
                            refine G_istore (L' := [(8, .int o612983), (0, .ref q572432), (1, .ref q572433), (2, .int g610551), (3, .ref q610691), (4, .int g612815), (5, .ref q612816), (6, .int g612817), (7, .int g612818)]) dr_cX17_spill_273 (Nat.le_of_ble_eq_true rfl) rfl ?_
                            refine G_iload 0 dr_cX17_spill_275 rfl ?_
                            refine G_if_ge 282 dr_cX17_spill_277 (by decide +kernel) (fun hc613068 => ?_) (fun hc613068 => ?_)
                            · have r613069 : 0 ≤ o612983.toInt := gj_leL hc613068 (show Int32.toInt 0 = 0 by decide)
                              have bo612983' : gB o612983 0 1999 := ⟨by omega, by omega⟩
                              have pl613071 := sp_ld (x612990.resolve_left (by omega)) x612838 (tn_ge (by omega)) (rfl : ((g612815.toInt : Int).toNat + 1) = (g612815.toInt : Int).toNat + 1)
                              have hp613072 : rAt γ el q572433 (g610551.toInt : Int).toNat ((g612815.toInt : Int).toNat + 1) = q612816 := ((x612991.resolve_left (by omega)) (g612815.toInt : Int).toNat (Nat.le_refl _)).trans x612839
                              have r613073 := x612988.resolve_left (by omega)
                              clear x612988 x612990 x612991
                              obtain ⟨z613074, hz613074⟩ : ∃ z : Int32, z = g612815 + Int32.ofInt 1 := ⟨_, rfl⟩
                              have ez613074 : z613074.toInt = g612815.toInt + 1 := gI_inc hz613074 (by decide) bg612815 (by decide) (by decide)
                              have bz613074 : gB z613074 1 1000002 := ⟨by omega, by omega⟩
                              refine G_iinc (L' := [(4, .int z613074), (8, .int o612983), (0, .ref q572432), (1, .ref q572433), (2, .int g610551), (3, .ref q610691), (5, .ref q612816), (6, .int g612817), (7, .int g612818)]) z613074 5 dr_cX17_spill_282 rfl hz613074.symm (Nat.le_of_ble_eq_true rfl) rfl ?_
                              refine G_aload 6 dr_cX17_spill_285 rfl ?_
                              refine G_iload 1 dr_cX17_spill_287 rfl ?_
                              refine Gp_put 3 hm613013 he613012 dr_cX17_spill_289 (gk_X15 D I) (Nat.le_of_ble_eq_true rfl) wr_9_186 rfl rfl rfl (Nat.le_of_ble_eq_true rfl) (fun F613075 e613076 n613077 => ?_)
                              have r613078 := rk1_at hT612999 ht613008 he613012
                              have he613079 : F613075 q572432 = .inr (22, [.ref (γ 9 0), .ref (γ 9 1), .ref (γ 9 2), .ref (γ 9 3), .ref (γ 9 4), .ref (γ 9 5), .ref (γ 9 6), .ref (γ 9 7), .ref (γ 9 8), .int p613023, .int p613024, .int p613025, .int p613026, .int p613027, .int p613028, .ref (γ 9 15), .ref (γ 9 16), .ref (γ 9 17), .ref (γ 9 18), .ref (γ 9 19), .ref (γ 9 20), .ref (γ 9 21), .ref (γ 9 22), .int p613029, .int p613030, .int p613031, .int p613032, .int p613033, .ref q613021, .ref (γ 9 29), .int p613034, .ref (γ 9 31), .int p613035, .int p613036, .int p613037, .ref q613022]) := (n613077 q572432 (rn_oo he613020 he613012 (by decide))).trans he613020
                              have he613080 : F613075 q612816 = .inr (20, [.int p612904, .int p612905, .int p612906, .int o612983, .int p612908, .int p612909, .int p612910]) := e613076
                              have mk613081 : mKp (F572431 q572432) (F613075 q572432) := mKp_tr mk613014 (mKp_eq (n613077 q572432 (rn_ty ht613003 ht613008 (by decide))))
                              have kp613082 : F613075 (γ0 9 3) = F572431 (γ0 9 3) := (n613077 (γ0 9 3) (rn_ty (rSk_k hs613000 k0_3 (by decide) (by decide)) ht613008 (by decide))).trans kp613001
                              have kp613083 : F613075 (γ0 9 19) = F607300 (γ0 9 19) := (n613077 (γ0 9 19) (rn_ty (rSk_k hs613000 k0_19 (by decide) (by decide)) ht613008 (by decide))).trans kp613002
                              have hT613084 : RS D I P612993 F613075 γ el := RS_set hT612999 n613077 ht613008 (by decide) ⟨p612904, p612905, p612906, o612983, p612908, p612909, p612910, he613080, bp612904, bp612905, bp612908, bp612909, bp612910, (gHe r612911), (gHe r612912), (Or.inr bo612983'), r613078.1, r613078.2⟩
                              have hs613086 := rSk_put hs613000 hT613084 n613077 ht613008 (by decide) (by decide)
                              have hm613088 : q610691 ∈ P612993 := RS_m hT613084 ht613006 (by decide)
                              obtain ⟨q613090, q613091, p613092, p613093, he613089, ht613100, ht613094, ht613095, ht613096, ht613097, ht613098, bp613092, bp613093, r613099, r613101, r613102⟩ := show rk_2 γ q610691 (F613075 q610691) from RS_o hT613084 ht613006
                              have hf613103 : γ 1 q613090 = f := (show γ 1 q613090 = γ 1 q610691 from ht613095).trans hf613007
                              have hf613104 : γ 1 q613091 = f := (show γ 1 q613091 = γ 1 q610691 from ht613097).trans hf613007
                              have r613105 : γ 6 (γ 1 q610691) = γ 6 f := by rw [hf613007]
                              have r613106 : γ 7 (γ 1 q610691) = γ 7 f := by rw [hf613007]
                              have r613107 : γ 19 (γ 1 q610691) = γ 19 f := by rw [hf613007]
                              have r613108 := r613099.resolve_left (by omega)
                              clear r613099
                              have r613109 : γ 2 (γ 14 q610691) = γ 2 q613090 := by rw [ht613100.1]
                              have pl613087 := sp_put hT612999 ht613004 hf613005 pl613071 n613077 hp613072 (show (g610551.toInt : Int).toNat < γ 6 f from tn_lt (by omega) (by omega)) (by unfold rwL; rw [x612987.2.2]; exact tn_le1 (by omega) (by omega))
                              have ac613110 : (fI (F613075 q572432) 11).toInt = p613025.toInt := by rw [he613079]; rfl
                              have ac613111 : (fI (F613075 q572432) 14).toInt = p613028.toInt := by rw [he613079]; rfl
                              refine G_lv (L' := [(0, .ref q572432), (1, .ref q572433), (2, .int g610551), (3, .ref q610691), (4, .int z613074), (5, .ref q612816)]) [2, 3, 4, 5, 0, 6] rfl ?_
                              exact jn292_612336 P612993 F613075 γ el z613074 q612816 ⟨by omega, by omega⟩ hT613084 hs613086 hph613015 hB612998 ht613006 hf613007 x612987.2.1 x612987.2.2 ht613008 hf613009 (by omega) (by omega) (by omega) (by omega) (by omega) (by omega) kp613083 (by rw [(show (z613074.toInt : Int).toNat = ((g612815.toInt : Int).toNat + 1) from tn_eq1 (by omega) (by omega))]; exact pl613087) (by rw [(show (z613074.toInt : Int).toNat = ((g612815.toInt : Int).toNat + 1) from tn_eq1 (by omega) (by omega))]; exact hp613072) (rS1_b he612903 he613080 (by omega) x612840) (by omega) (by omega) (ms_j x612843 (by omega) (by omega) (by omega)) (eO_j x612844 (by rw [he613080] <;> rfl) (by rw [he612903] <;> rfl) (by omega)) kp613082 mk613081
                            · have r613112 : o612983.toInt < 0 := gj_nleL hc613068 (show Int32.toInt 0 = 0 by decide)
                              have bo612983' : gB o612983 (-1) (-1) := ⟨by omega, by omega⟩
                              refine G_iconst 0 dr_cX17_spill_280 (by decide +kernel) ?_
                              exact G_zretA FieldType.boolean dr_cX17_spill_281 rfl rfl (rm_zc pk613016) (rm_zs pk613016) ⟨P612993, F612994, γ, el, 0, rfl, rfl, hs613000, (rm_pp hph613015), hB612998, (gB_w (gBl (show Int32.toInt 0 = 0 by decide)) (by decide) (by decide)), (by have qa0 : Int32.toInt 0 = 0 := (by decide); omega), (Or.inl (by decide)), kp613001, mk613014⟩
                    refine G_iload 0 dr_cX17_spill_102 rfl ?_
                    refine G_aload_n 1 dr_cX17_spill_104 rfl ?_
                    refine Gp_get 0 hm612264 he612265 dr_cX17_spill_105 (gk_X12 D I) (Nat.le_of_ble_eq_true rfl) wr_9_216 rfl ?_
                    refine Gw_callV (As := []) (gV_ok D I) (cp_7_ArrayList_size l hl0 D I P612187 F612188 q612266 p612288 q612290 p612289 hm612286 he612287 (gB_w bp612289 (by decide) (by decide))) dr_cX17_spill_108 ⟨wr_10_196, wr_1_18, wr_9_156, by decide, rfl, (Nat.le_of_ble_eq_true rfl), (Nat.le_of_ble_eq_true rfl)⟩ wr_9_154 wr_9_155 hm612286 he612287 rfl (rm_zc pk612213) (rm_zs pk612213) (Nat.le_of_ble_eq_true rfl) (fun r613116 w613117 dc613113 ds613114 hp613115 => ?_) (fun _ _ _ _ _ z => z.elim)
                    obtain ⟨rfl, rfl, hdc, hds⟩ := hp613115
                    change G _ _ _ _ _ _ _ (.int p612289 :: _) _ _ _
                    refine G_widen (cs' := ((rPh γ el f - rPh γ0 el0 f) / 18)) (sl' := (rPh γ el f - rPh γ0 el0 f)) (rm_d0 hdc) (rm_d0 hds) ?_
                    refine G_icmp_ge 129 dr_cX17_spill_111 (by decide +kernel) (fun hc613118 => ?_) (fun hc613118 => ?_)
                    · have r613119 : p612289.toInt ≤ g612186.toInt := gC_le hc613118
                      refine G_aload_n 1 dr_cX17_spill_129 rfl ?_
                      refine Gp_get 1 hm612264 he612265 dr_cX17_spill_130 (gk_X12 D I) (Nat.le_of_ble_eq_true rfl) wr_9_219 rfl ?_
                      have fl613122 : p612289.toInt = γ 2 q612266 := r612291
                      have hp613120 : rAt γ el q572433 (g610551.toInt : Int).toNat (g612186.toInt : Int).toNat = q612267 := (rAt_e r612196 ht612276.1 (by omega)).trans ht612276.2.1
                      have hL613121 : (g612186.toInt : Int).toNat ≤ γ 2 (rwL γ el q572433 (g610551.toInt : Int).toNat) := by unfold rwL; rw [r612196, ht612276.1]; exact tn_le0 (by omega) (by omega)
                      have hm613123 : q612267 ∈ P612187 := RS_m hT612189 ht612272 (by decide)
                      obtain ⟨p613125, p613126, p613127, p613128, p613129, p613130, p613131, he613124, bp613125, bp613126, bp613129, bp613130, bp613131, r613132, r613133, r613134, r613135, r613136⟩ := show rk_1 γ q612267 (F612188 q612267) from RS_o hT612189 ht612272
                      have bp613127 := gB_any p613127
                      have bp613128 := gB_any p613128
                      replace r613132 : gH _ := r613132
                      replace r613133 : gH _ := r613133
                      replace r613134 : gH _ := r613134
                      replace r613135 : gH _ := r613135
                      replace r613136 : gH _ := r613136
                      have r613137 : γ 7 (γ 1 q612267) = γ 7 f := by rw [hf612280]
                      have pl613138 := sp_hd x612204 hp613120 (show (g610551.toInt : Int).toNat < γ 6 f from tn_lt (by omega) (by omega)) hL613121
                      refine G_astore (L' := [(5, .ref q612267), (4, .int g612186), (3, .ref q610691), (2, .int g610551), (0, .ref q572432), (1, .ref q572433)]) dr_cX17_spill_133 (Nat.le_of_ble_eq_true rfl) rfl ?_
                      refine G_aload 0 dr_cX17_spill_135 rfl ?_
                      refine Gw_callV (As := []) (gV_ok D I) (cp_398518_Row_usesA l hl0 D I P612187 F612188 q612267 p613125 p613126 p613127 p613128 p613129 p613130 p613131 hm613123 he613124 bp613125 bp613126 bp613129 bp613130 bp613131) dr_cX17_spill_137 ⟨wr_10_188, wr_1_39, wr_10_191, by decide, rfl, (Nat.le_of_ble_eq_true rfl), (Nat.le_of_ble_eq_true rfl)⟩ wr_10_189 wr_10_190 hm613123 he613124 rfl (rm_zc pk612213) (rm_zs pk612213) (Nat.le_of_ble_eq_true rfl) (fun r613142 w613143 dc613139 ds613140 hp613141 => ?_) (fun _ _ _ _ _ z => z.elim)
                      obtain ⟨o613144, rfl, rfl, hdc, hds, bo613144, x613145⟩ := hp613141
                      change G _ _ _ _ _ _ _ (.int o613144 :: _) _ _ _
                      refine G_widen (cs' := ((rPh γ el f - rPh γ0 el0 f) / 18)) (sl' := (rPh γ el f - rPh γ0 el0 f)) (rm_d0 hdc) (rm_d0 hds) ?_
                      refine G_if_eq 151 dr_cX17_spill_140 (by decide +kernel) (fun hc613146 => ?_) (fun hc613146 => ?_)
                      · have r613147 : o613144.toInt = 0 := gj_eq hc613146 (show Int32.toInt 0 = 0 by decide)
                        have bo613144' : gB o613144 0 0 := gB_t0 r613147
                        refine G_iconst (-1) dr_cX17_spill_151 (by decide +kernel) ?_
                        refine G_istore (L' := [(6, .int (-1)), (5, .ref q612267), (4, .int g612186), (3, .ref q610691), (2, .int g610551), (0, .ref q572432), (1, .ref q572433)]) dr_cX17_spill_152 (Nat.le_of_ble_eq_true rfl) rfl ?_
                        refine G_aload 1 dr_cX17_spill_154 rfl ?_
                        refine Gw_callV (As := []) (gV_ok D I) (cp_398542_Row_usesB l hl0 D I P612187 F612188 q612267 p613125 p613126 p613127 p613128 p613129 p613130 p613131 hm613123 he613124 bp613125 bp613126 bp613129 bp613130 bp613131) dr_cX17_spill_156 ⟨wr_10_192, wr_1_39, wr_10_195, by decide, rfl, (Nat.le_of_ble_eq_true rfl), (Nat.le_of_ble_eq_true rfl)⟩ wr_10_193 wr_10_194 hm613123 he613124 rfl (rm_zc pk612213) (rm_zs pk612213) (Nat.le_of_ble_eq_true rfl) (fun r613151 w613152 dc613148 ds613149 hp613150 => ?_) (fun _ _ _ _ _ z => z.elim)
                        obtain ⟨o613153, rfl, rfl, hdc, hds, bo613153, x613154⟩ := hp613150
                        change G _ _ _ _ _ _ _ (.int o613153 :: _) _ _ _
                        refine G_widen (cs' := ((rPh γ el f - rPh γ0 el0 f) / 18)) (sl' := (rPh γ el f - rPh γ0 el0 f)) (rm_d0 hdc) (rm_d0 hds) ?_
                        refine G_if_eq 170 dr_cX17_spill_159 (by decide +kernel) (fun hc613155 => ?_) (fun hc613155 => ?_)
                        · have r613156 : o613153.toInt = 0 := gj_eq hc613155 (show Int32.toInt 0 = 0 by decide)
                          have bo613153' : gB o613153 0 0 := gB_t0 r613156
                          refine G_iconst (-1) dr_cX17_spill_170 (by decide +kernel) ?_
                          refine G_istore (L' := [(7, .int (-1)), (6, .int (-1)), (5, .ref q612267), (4, .int g612186), (3, .ref q610691), (2, .int g610551), (0, .ref q572432), (1, .ref q572433)]) dr_cX17_spill_171 (Nat.le_of_ble_eq_true rfl) rfl ?_
                          refine G_iload 1 dr_cX17_spill_173 rfl ?_
                          refine G_if_lt 236 dr_cX17_spill_175 (by decide +kernel) (fun _ => ?_) (fun hc => absurd hc (by decide))
                          have ac613157 : (fI (F612188 q572432) 11).toInt = p612221.toInt := by rw [he612216]; rfl
                          have ac613158 : (fI (F612188 q572432) 14).toInt = p612224.toInt := by rw [he612216]; rfl
                          refine G_lv (L' := [(0, .ref q572432), (1, .ref q572433), (2, .int g610551), (3, .ref q610691), (4, .int g612186), (5, .ref q612267), (6, .int (-1)), (7, .int (-1))]) [6, 7, 5, 4, 3, 2, 1, 0] rfl ?_
                          exact jn236_612846 P612187 F612188 γ el g612186 q612267 (-1) (-1) (gB_w bg612186' (by decide) (by decide)) (gB_w (gBl (show Int32.toInt (-1) = (-1) by decide)) (by decide) (by decide)) (gB_w (gBl (show Int32.toInt (-1) = (-1) by decide)) (by decide) (by decide)) hT612189 hs612190 hph612191 hB612192 ht612193 hf612194 r612195 r612196 ht612272 hf612280 (by have qa0 : Int32.toInt (-1) = (-1) := (by decide); omega) (by have qa0 : Int32.toInt (-1) = (-1) := (by decide); omega) (by have qa0 : Int32.toInt (-1) = (-1) := (by decide); omega) (by have qa0 : Int32.toInt (-1) = (-1) := (by decide); omega) (by have qa0 : Int32.toInt (-1) = (-1) := (by decide); omega) (by have qa0 : Int32.toInt (-1) = (-1) := (by decide); omega) x612203 (by exact pl613138.1) (by exact hp613120) (rS1_of he613124 he613124 pl613138.2 (fun h1 h2 h3 h4 => (uA_0 x613145 (by omega) h1 h2 h3 h4).elim) (fun h1 h2 h3 => (uB_0 x613154 (by omega) h1 h2 h3).elim)) (by have qa0 : Int32.toInt (-1) = (-1) := (by decide); omega) (by have qa0 : Int32.toInt (-1) = (-1) := (by decide); omega) (ms_j hm90_612208 (by omega) (by omega) (by omega)) (eO_c (op := p613125.toInt) (by rw [he613124] <;> rfl) (Or.inr ((gHe r613136).resolve_left (fun z => absurd (ht612274.2.symm.trans z) (by decide))))) x612207 x612208
                        · have r613159 : o613153.toInt ≠ 0 := gj_neq hc613155 (show Int32.toInt 0 = 0 by decide)
                          have bo613153' : gB o613153 1 1 := gB_t1 bo613153 r613159
                          refine G_aload 1 dr_cX17_spill_162 rfl ?_
                          refine Gp_get 3 hm613123 he613124 dr_cX17_spill_164 (gk_X15 D I) (Nat.le_of_ble_eq_true rfl) wr_9_186 rfl ?_
                          have rb613160 : gB p613128 0 1999 := (gHe r613134).resolve_left (by have z := (uB_1 x613154 (by omega)).2.2; omega)
                          refine G_goto 171 dr_cX17_spill_167 (by decide +kernel) ?_
                          refine G_istore (L' := [(7, .int p613128), (6, .int (-1)), (5, .ref q612267), (4, .int g612186), (3, .ref q610691), (2, .int g610551), (0, .ref q572432), (1, .ref q572433)]) dr_cX17_spill_171 (Nat.le_of_ble_eq_true rfl) rfl ?_
                          refine G_iload 1 dr_cX17_spill_173 rfl ?_
                          refine G_if_lt 236 dr_cX17_spill_175 (by decide +kernel) (fun _ => ?_) (fun hc => absurd hc (by decide))
                          have ac613161 : (fI (F612188 q572432) 11).toInt = p612221.toInt := by rw [he612216]; rfl
                          have ac613162 : (fI (F612188 q572432) 14).toInt = p612224.toInt := by rw [he612216]; rfl
                          refine G_lv (L' := [(0, .ref q572432), (1, .ref q572433), (2, .int g610551), (3, .ref q610691), (4, .int g612186), (5, .ref q612267), (6, .int (-1)), (7, .int p613128)]) [6, 7, 5, 4, 3, 2, 1, 0] rfl ?_
                          exact jn236_612846 P612187 F612188 γ el g612186 q612267 (-1) p613128 (gB_w bg612186' (by decide) (by decide)) (gB_w (gBl (show Int32.toInt (-1) = (-1) by decide)) (by decide) (by decide)) (gB_w rb613160 (by decide) (by decide)) hT612189 hs612190 hph612191 hB612192 ht612193 hf612194 r612195 r612196 ht612272 hf612280 (by have qa0 : Int32.toInt (-1) = (-1) := (by decide); omega) (by have qa0 : Int32.toInt (-1) = (-1) := (by decide); omega) (by have qa0 : Int32.toInt (-1) = (-1) := (by decide); omega) (by have qa0 : Int32.toInt (-1) = (-1) := (by decide); omega) (by have qa0 : Int32.toInt (-1) = (-1) := (by decide); omega) (by have qa0 : Int32.toInt (-1) = (-1) := (by decide); omega) x612203 (by exact pl613138.1) (by exact hp613120) (rS1_of he613124 he613124 pl613138.2 (fun h1 h2 h3 h4 => (uA_0 x613145 (by omega) h1 h2 h3 h4).elim) (fun _ _ _ => Or.inr ⟨rfl, rfl, by omega, Or.inl (by have qa : Int32.toInt (-1) = -1 := (by decide); omega)⟩)) (by have qa0 : Int32.toInt (-1) = (-1) := (by decide); omega) (by have qa0 : Int32.toInt (-1) = (-1) := (by decide); omega) (ms_j hm90_612208 (by omega) (by omega) (by omega)) (eO_c (op := p613125.toInt) (by rw [he613124] <;> rfl) (Or.inr ((gHe r613136).resolve_left (fun z => absurd (ht612274.2.symm.trans z) (by decide))))) x612207 x612208
                      · have r613163 : o613144.toInt ≠ 0 := gj_neq hc613146 (show Int32.toInt 0 = 0 by decide)
                        have bo613144' : gB o613144 1 1 := gB_t1 bo613144 r613163
                        refine G_aload 0 dr_cX17_spill_143 rfl ?_
                        refine Gp_get 2 hm613123 he613124 dr_cX17_spill_145 (gk_X15 D I) (Nat.le_of_ble_eq_true rfl) wr_9_182 rfl ?_
                        have rb613164 : gB p613127 0 1999 := (gHe r613133).resolve_left (by have z := (uA_1 x613145 (by omega)).2.2.2; omega)
                        refine G_goto 152 dr_cX17_spill_148 (by decide +kernel) ?_
                        refine G_istore (L' := [(6, .int p613127), (5, .ref q612267), (4, .int g612186), (3, .ref q610691), (2, .int g610551), (0, .ref q572432), (1, .ref q572433)]) dr_cX17_spill_152 (Nat.le_of_ble_eq_true rfl) rfl ?_
                        refine G_aload 1 dr_cX17_spill_154 rfl ?_
                        refine Gw_callV (As := []) (gV_ok D I) (cp_398542_Row_usesB l hl0 D I P612187 F612188 q612267 p613125 p613126 p613127 p613128 p613129 p613130 p613131 hm613123 he613124 bp613125 bp613126 bp613129 bp613130 bp613131) dr_cX17_spill_156 ⟨wr_10_192, wr_1_39, wr_10_195, by decide, rfl, (Nat.le_of_ble_eq_true rfl), (Nat.le_of_ble_eq_true rfl)⟩ wr_10_193 wr_10_194 hm613123 he613124 rfl (rm_zc pk612213) (rm_zs pk612213) (Nat.le_of_ble_eq_true rfl) (fun r613168 w613169 dc613165 ds613166 hp613167 => ?_) (fun _ _ _ _ _ z => z.elim)
                        obtain ⟨o613170, rfl, rfl, hdc, hds, bo613170, x613171⟩ := hp613167
                        change G _ _ _ _ _ _ _ (.int o613170 :: _) _ _ _
                        refine G_widen (cs' := ((rPh γ el f - rPh γ0 el0 f) / 18)) (sl' := (rPh γ el f - rPh γ0 el0 f)) (rm_d0 hdc) (rm_d0 hds) ?_
                        refine G_if_eq 170 dr_cX17_spill_159 (by decide +kernel) (fun hc613172 => ?_) (fun hc613172 => ?_)
                        · have r613173 : o613170.toInt = 0 := gj_eq hc613172 (show Int32.toInt 0 = 0 by decide)
                          have bo613170' : gB o613170 0 0 := gB_t0 r613173
                          refine G_iconst (-1) dr_cX17_spill_170 (by decide +kernel) ?_
                          refine G_istore (L' := [(7, .int (-1)), (6, .int p613127), (5, .ref q612267), (4, .int g612186), (3, .ref q610691), (2, .int g610551), (0, .ref q572432), (1, .ref q572433)]) dr_cX17_spill_171 (Nat.le_of_ble_eq_true rfl) rfl ?_
                          refine G_iload 1 dr_cX17_spill_173 rfl ?_
                          refine G_if_lt 236 dr_cX17_spill_175 (by decide +kernel) (fun hc => absurd (show False by have := gj_lt hc (show Int32.toInt 0 = 0 by decide); omega) not_false) (fun _ => ?_)
                          refine G_aload_n 6 dr_cX17_spill_178 rfl ?_
                          refine Gp_get 19 hm612215 he612216 dr_cX17_spill_179 (gk_X17 D I) (Nat.le_of_ble_eq_true rfl) wr_7_93 rfl ?_
                          refine G_iload 1 dr_cX17_spill_182 rfl ?_
                          have hm613174 : (γ 9 19) ∈ P612187 := RS_m hT612189 ht612249 (by decide)
                          obtain ⟨f613176, he613175, bf613176⟩ := show rk_21 I (F612188 (γ 9 19)) from RS_o hT612189 ht612249
                          refine Gp_iald 0 hm613174 he613175 dr_cX17_spill_184 rfl (gB_in rb613164 (by decide) (by decide)) (G_nam fun z613177 hz613177 => ?_)
                          have bz613177 : gB z613177 (-1) 1999 := by rw [hz613177]; exact bf613176 _
                          have c9_613178 : cB (F607300 (γ0 9 19)) = f613176 := by rw [← x612203, ← congrFun (rSk_9 hs612190) 19]; exact cB_of he613175
                          have hs613179 : (cB (F607300 (γ0 9 19)) p613127.toInt.toNat).toInt = z613177.toInt := by rw [c9_613178, hz613177]; rfl
                          refine G_if_lt 236 dr_cX17_spill_185 (by decide +kernel) (fun hc613181 => ?_) (fun hc613181 => ?_)
                          · have r613182 : z613177.toInt < 0 := gj_lt hc613181 (show Int32.toInt 0 = 0 by decide)
                            have bz613177' : gB z613177 (-1) (-1) := ⟨by omega, by omega⟩
                            have ac613183 : (fI (F612188 q572432) 11).toInt = p612221.toInt := by rw [he612216]; rfl
                            have ac613184 : (fI (F612188 q572432) 14).toInt = p612224.toInt := by rw [he612216]; rfl
                            refine G_lv (L' := [(0, .ref q572432), (1, .ref q572433), (2, .int g610551), (3, .ref q610691), (4, .int g612186), (5, .ref q612267), (6, .int p613127), (7, .int (-1))]) [6, 7, 5, 4, 3, 2, 1, 0] rfl ?_
                            exact jn236_612846 P612187 F612188 γ el g612186 q612267 p613127 (-1) (gB_w bg612186' (by decide) (by decide)) (gB_w rb613164 (by decide) (by decide)) (gB_w (gBl (show Int32.toInt (-1) = (-1) by decide)) (by decide) (by decide)) hT612189 hs612190 hph612191 hB612192 ht612193 hf612194 r612195 r612196 ht612272 hf612280 (by have qa0 : Int32.toInt (-1) = (-1) := (by decide); omega) (by have qa0 : Int32.toInt (-1) = (-1) := (by decide); omega) (by have qa0 : Int32.toInt (-1) = (-1) := (by decide); omega) (by have qa0 : Int32.toInt (-1) = (-1) := (by decide); omega) (by have qa0 : Int32.toInt (-1) = (-1) := (by decide); omega) (by have qa0 : Int32.toInt (-1) = (-1) := (by decide); omega) x612203 (by exact pl613138.1) (by exact hp613120) (rS1_of he613124 he613124 pl613138.2 (fun _ _ _ _ => Or.inr ⟨rfl, by omega⟩) (fun h1 h2 h3 => (uB_0 x613171 (by omega) h1 h2 h3).elim)) (by have qa0 : Int32.toInt (-1) = (-1) := (by decide); omega) (by have qa0 : Int32.toInt (-1) = (-1) := (by decide); omega) (ms_j hm90_612208 (by omega) (by omega) (by omega)) (eO_c (op := p613125.toInt) (by rw [he613124] <;> rfl) (Or.inr ((gHe r613136).resolve_left (fun z => absurd (ht612274.2.symm.trans z) (by decide))))) x612207 x612208
                          · have r613185 : 0 ≤ z613177.toInt := gj_nlt hc613181 (show Int32.toInt 0 = 0 by decide)
                            have bz613177' : gB z613177 0 1999 := ⟨by omega, by omega⟩
                            refine G_aload_n 6 dr_cX17_spill_188 rfl ?_
                            refine G_aload_n 7 dr_cX17_spill_189 rfl ?_
                            refine G_aload_n 4 dr_cX17_spill_190 rfl ?_
                            refine G_iload 3 dr_cX17_spill_191 rfl ?_
                            refine G_aload_n 6 dr_cX17_spill_193 rfl ?_
                            refine Gp_get 19 hm612215 he612216 dr_cX17_spill_194 (gk_X17 D I) (Nat.le_of_ble_eq_true rfl) wr_7_93 rfl ?_
                            refine G_iload 1 dr_cX17_spill_197 rfl ?_
                            refine Gp_iald 0 hm613174 he613175 dr_cX17_spill_199 rfl (gB_in rb613164 (by decide) (by decide)) (G_eqi (y := z613177) hz613177.symm ?_)
                            have r613186 := (spi607385.2.2.2 p613127.toInt.toNat (tn_lt (by omega) (by omega)) (by omega)).2.2
                            have ac613187 : (fI (F612188 q572432) 11).toInt = p612221.toInt := by rw [he612216]; rfl
                            have ac613188 : (fI (F612188 q572432) 14).toInt = p612224.toInt := by rw [he612216]; rfl
                            have rg613189 := rM_ge hT612189 ht612211 hf612212
                            have rm613190 := rM_bd hB612192
                            have bd613191 := rBd_c hT612189 ht612211 hf612212 hB612192
                            have rc613192 := rc_at hT612189 ht612211 hf612212
                            refine Gw_callV (As := [.ref q572433, .ref q610691, .int g612186, .int z613177]) (gV_ok D I) (cg_398156_SpillForgeModel_load l hl0 D I γ el f B P612187 F612188 q572432 q572433 q610691 g612186 z613177 g610551.toInt.toNat hT612189 ht612210 ht612211 ht612193 hf612212 hB612192 hBk r612195 r612196 hf612194 bg612186' bz613177' (by have qa0 : Int32.toInt (-1) = (-1) := (by decide); omega) (by have qa0 : Int32.toInt (-1) = (-1) := (by decide); omega) (by have qa0 : Int32.toInt (-1) = (-1) := (by decide); omega) (by have qa0 : Int32.toInt (-1) = (-1) := (by decide); omega) (by have qa0 : Int32.toInt (-1) = (-1) := (by decide); omega)) dr_cX17_spill_200 ⟨wr_11_63, wr_1_14, wr_11_66, by decide, rfl, (Nat.le_of_ble_eq_true rfl), (Nat.le_of_ble_eq_true rfl)⟩ wr_11_65 wr_p_111 hm612215 he612216 rfl (rm_gc hph612191 pk612213) (rm_gs hph612191 pk612213) (Nat.le_of_ble_eq_true rfl) (fun r613196 w613197 dc613193 ds613194 hp613195 => ?_) (fun _ _ _ _ _ z => z.elim)
                            obtain ⟨P613208, F613209, γ, el, o613198, rfl, rfl, hk613210, ⟨hr613211, hr613212⟩, hB613213, bo613198, x613199, x613200, x613201, x613202, x613203, x613204, x613205, x613206, x613207⟩ := hp613195
                            have hT613214 := hk613210.1
                            have hs613215 := rSk_tr hs612190 hk613210 (by decide) (by decide) (by decide)
                            have kp613216 : F613209 (γ0 9 3) = F572431 (γ0 9 3) := (rSk_F hk613210 (rSk_k hs612190 k0_3 (by decide) (by decide)) (by decide) (by decide)).trans x612207
                            have kp613217 : F613209 (γ0 9 19) = F607300 (γ0 9 19) := (rSk_F hk613210 (rSk_k hs612190 k0_19 (by decide) (by decide)) (by decide) (by decide)).trans x612203
                            have ht613218 : rKd γ q572432 10 := rSk_k hk613210 ht612210 (by decide) (by decide)
                            have ht613219 : rKd γ q572433 9 := rSk_k hk613210 ht612211 (by decide) (by decide)
                            have hf613220 : γ 1 q572433 = f := rSk_1 hk613210 ht612211 (by decide) hf612212
                            have ht613221 : rKd γ q610691 2 := rSk_k hk613210 ht612193 (by decide) (by decide)
                            have hf613222 : γ 1 q610691 = f := rSk_1 hk613210 ht612193 (by decide) hf612194
                            have ht613223 : rKd γ q612266 3 := rSk_k hk613210 ht612270 (by decide) (by decide)
                            have hf613224 : γ 1 q612266 = f := rSk_1 hk613210 ht612270 (by decide) hf612279
                            have ht613225 : rKd γ q612267 1 := rSk_k hk613210 ht612272 (by decide) (by decide)
                            have hf613226 : γ 1 q612267 = f := rSk_1 hk613210 ht612272 (by decide) hf612280
                            have he613227 : F613209 q612267 = .inr (20, [.int p613125, .int p613126, .int p613127, .int p613128, .int p613129, .int p613130, .int p613131]) := (rSk_F hk613210 ht612272 (by decide) (by decide)).trans he613124
                            have hm613228 : q612267 ∈ P613208 := RS_m hT613214 ht613225 (by decide)
                            clear bp612268 bp612269 r612277 r612278 rg613189 rm613190 bd613191 rc613192
                            have mk613229 : mKp (F572431 q572432) (F613209 q572432) := mKp_tr x612208 x613207
                            have hph613230 : rPh γ0 el0 f ≤ rPh γ el f := rm_ph hph612191 hr613212
                            have pk613231 : rPh γ el f ≤ 387 * B + 6000 := rm_pk (rM_ge hT613214 ht613219 hf613220).1 (rM_bd hB613213)
                            change G _ _ _ _ _ _ _ (.int o613198 :: _) _ _ _
                            refine G_widen (cs' := ((rPh γ el f - rPh γ0 el0 f) / 18)) (sl' := (rPh γ el f - rPh γ0 el0 f)) (rm_wc hph612191 hr613211) (rm_ws hph612191 hr613212) ?_
                            have sz613232 := x613199
                            have r613233 : 0 < γ 6 (γ 1 q572433) := by rw [hf613220]; omega
                            have hm613234 : q572432 ∈ P613208 := RS_m hT613214 ht613218 (by decide)
                            refine rk10_e (show rk_10 γ (F613209 q572432) from RS_o hT613214 ht613218) (fun q613236 q613237 p613238 p613239 p613240 p613241 p613242 p613243 p613244 p613245 p613246 p613247 p613248 p613249 p613250 p613251 p613252 he613235 hB613279 ht613253 ht613254 ht613255 ht613256 ht613257 ht613258 ht613259 ht613260 ht613261 ht613262 ht613263 ht613264 ht613265 ht613266 ht613267 ht613268 ht613269 ht613270 ht613271 ht613272 ht613273 ht613274 ht613275 ht613276 hB613280 => ?_)
                            have ac613281 : (fI (F613209 q572432) 11).toInt = p613240.toInt := by rw [he613235]; rfl
                            have bp613240 : gB p613240 0 100 := (hB613279.2.2.1)
                            have ac613282 : (fI (F613209 q572432) 14).toInt = p613243.toInt := by rw [he613235]; rfl
                            have bp613243 : gB p613243 0 2000 := (hB613279.2.2.2.1)
                            refine G_istore (L' := [(8, .int o613198), (7, .int (-1)), (6, .int p613127), (5, .ref q612267), (4, .int g612186), (3, .ref q610691), (2, .int g610551), (0, .ref q572432), (1, .ref q572433)]) dr_cX17_spill_203 (Nat.le_of_ble_eq_true rfl) rfl ?_
                            refine G_iload 0 dr_cX17_spill_205 rfl ?_
                            refine G_if_ge 212 dr_cX17_spill_207 (by decide +kernel) (fun hc613283 => ?_) (fun hc613283 => ?_)
                            · have r613284 : 0 ≤ o613198.toInt := gj_leL hc613283 (show Int32.toInt 0 = 0 by decide)
                              have bo613198' : gB o613198 0 1999 := ⟨by omega, by omega⟩
                              have pl613286 := sp_ld (x613205.resolve_left (by omega)) pl613138.1 (tn_ge (by omega)) (rfl : ((g612186.toInt : Int).toNat + 1) = (g612186.toInt : Int).toNat + 1)
                              have hp613287 : rAt γ el q572433 (g610551.toInt : Int).toNat ((g612186.toInt : Int).toNat + 1) = q612267 := ((x613206.resolve_left (by omega)) (g612186.toInt : Int).toNat (Nat.le_refl _)).trans hp613120
                              have r613288 := x613203.resolve_left (by omega)
                              clear x613203 x613205 x613206
                              obtain ⟨z613289, hz613289⟩ : ∃ z : Int32, z = g612186 + Int32.ofInt 1 := ⟨_, rfl⟩
                              have ez613289 : z613289.toInt = g612186.toInt + 1 := gI_inc hz613289 (by decide) bg612186' (by decide) (by decide)
                              have bz613289 : gB z613289 1 1000001 := ⟨by omega, by omega⟩
                              refine G_iinc (L' := [(4, .int z613289), (8, .int o613198), (7, .int (-1)), (6, .int p613127), (5, .ref q612267), (3, .ref q610691), (2, .int g610551), (0, .ref q572432), (1, .ref q572433)]) z613289 4 dr_cX17_spill_212 rfl hz613289.symm (Nat.le_of_ble_eq_true rfl) rfl ?_
                              refine G_aload 4 dr_cX17_spill_215 rfl ?_
                              refine G_iload 1 dr_cX17_spill_217 rfl ?_
                              refine Gp_put 2 hm613228 he613227 dr_cX17_spill_219 (gk_X15 D I) (Nat.le_of_ble_eq_true rfl) wr_9_182 rfl rfl rfl (Nat.le_of_ble_eq_true rfl) (fun F613290 e613291 n613292 => ?_)
                              have r613293 := rk1_at hT613214 ht613225 he613227
                              have he613294 : F613290 q572432 = .inr (22, [.ref (γ 9 0), .ref (γ 9 1), .ref (γ 9 2), .ref (γ 9 3), .ref (γ 9 4), .ref (γ 9 5), .ref (γ 9 6), .ref (γ 9 7), .ref (γ 9 8), .int p613238, .int p613239, .int p613240, .int p613241, .int p613242, .int p613243, .ref (γ 9 15), .ref (γ 9 16), .ref (γ 9 17), .ref (γ 9 18), .ref (γ 9 19), .ref (γ 9 20), .ref (γ 9 21), .ref (γ 9 22), .int p613244, .int p613245, .int p613246, .int p613247, .int p613248, .ref q613236, .ref (γ 9 29), .int p613249, .ref (γ 9 31), .int p613250, .int p613251, .int p613252, .ref q613237]) := (n613292 q572432 (rn_oo he613235 he613227 (by decide))).trans he613235
                              have he613295 : F613290 q612267 = .inr (20, [.int p613125, .int p613126, .int o613198, .int p613128, .int p613129, .int p613130, .int p613131]) := e613291
                              have mk613296 : mKp (F572431 q572432) (F613290 q572432) := mKp_tr mk613229 (mKp_eq (n613292 q572432 (rn_ty ht613218 ht613225 (by decide))))
                              have kp613297 : F613290 (γ0 9 3) = F572431 (γ0 9 3) := (n613292 (γ0 9 3) (rn_ty (rSk_k hs613215 k0_3 (by decide) (by decide)) ht613225 (by decide))).trans kp613216
                              have kp613298 : F613290 (γ0 9 19) = F607300 (γ0 9 19) := (n613292 (γ0 9 19) (rn_ty (rSk_k hs613215 k0_19 (by decide) (by decide)) ht613225 (by decide))).trans kp613217
                              refine G_iload 2 dr_cX17_spill_222 rfl ?_
                              refine G_iload 3 dr_cX17_spill_224 rfl ?_
                              refine G_icmp_ne 236 dr_cX17_spill_226 (by decide +kernel) (fun _ => ?_) (fun hc => absurd (show False by have := gj_eqL hc (show Int32.toInt (-1) = (-1) by decide); omega) not_false)
                              have hT613299 : RS D I P613208 F613290 γ el := RS_set hT613214 n613292 ht613225 (by decide) ⟨p613125, p613126, o613198, p613128, p613129, p613130, p613131, he613295, bp613125, bp613126, bp613129, bp613130, bp613131, (gHe r613132), (Or.inr bo613198'), (gHe r613134), r613293.1, r613293.2⟩
                              have hs613301 := rSk_put hs613215 hT613299 n613292 ht613225 (by decide) (by decide)
                              have hm613303 : q610691 ∈ P613208 := RS_m hT613299 ht613221 (by decide)
                              obtain ⟨q613305, q613306, p613307, p613308, he613304, ht613315, ht613309, ht613310, ht613311, ht613312, ht613313, bp613307, bp613308, r613314, r613316, r613317⟩ := show rk_2 γ q610691 (F613290 q610691) from RS_o hT613299 ht613221
                              have hf613318 : γ 1 q613305 = f := (show γ 1 q613305 = γ 1 q610691 from ht613310).trans hf613222
                              have hf613319 : γ 1 q613306 = f := (show γ 1 q613306 = γ 1 q610691 from ht613312).trans hf613222
                              have r613320 : γ 6 (γ 1 q610691) = γ 6 f := by rw [hf613222]
                              have r613321 : γ 7 (γ 1 q610691) = γ 7 f := by rw [hf613222]
                              have r613322 : γ 19 (γ 1 q610691) = γ 19 f := by rw [hf613222]
                              have r613323 := r613314.resolve_left (by omega)
                              clear r613314
                              have r613324 : γ 2 (γ 14 q610691) = γ 2 q613305 := by rw [ht613315.1]
                              have pl613302 := sp_put hT613214 ht613219 hf613220 pl613286 n613292 hp613287 (show (g610551.toInt : Int).toNat < γ 6 f from tn_lt (by omega) (by omega)) (by unfold rwL; rw [x613202.2.2]; exact tn_le1 (by omega) (by omega))
                              have ac613325 : (fI (F613290 q572432) 11).toInt = p613240.toInt := by rw [he613294]; rfl
                              have ac613326 : (fI (F613290 q572432) 14).toInt = p613243.toInt := by rw [he613294]; rfl
                              refine G_lv (L' := [(0, .ref q572432), (1, .ref q572433), (2, .int g610551), (3, .ref q610691), (4, .int z613289), (5, .ref q612267), (6, .int p613127), (7, .int (-1))]) [7, 8, 6, 5, 0, 4, 3, 2] rfl ?_
                              exact jn236_612846 P613208 F613290 γ el z613289 q612267 p613127 (-1) (gB_w bz613289 (by decide) (by decide)) (gB_w rb613164 (by decide) (by decide)) (gB_w (gBl (show Int32.toInt (-1) = (-1) by decide)) (by decide) (by decide)) hT613299 hs613301 hph613230 hB613213 ht613221 hf613222 x613202.2.1 x613202.2.2 ht613225 hf613226 (by have qa0 : Int32.toInt (-1) = (-1) := (by decide); omega) (by have qa0 : Int32.toInt (-1) = (-1) := (by decide); omega) (by have qa0 : Int32.toInt (-1) = (-1) := (by decide); omega) (by have qa0 : Int32.toInt (-1) = (-1) := (by decide); omega) (by have qa0 : Int32.toInt (-1) = (-1) := (by decide); omega) (by have qa0 : Int32.toInt (-1) = (-1) := (by decide); omega) kp613298 (by rw [(show (z613289.toInt : Int).toNat = ((g612186.toInt : Int).toNat + 1) from tn_eq1 (by omega) (by omega))]; exact pl613302) (by rw [(show (z613289.toInt : Int).toNat = ((g612186.toInt : Int).toNat + 1) from tn_eq1 (by omega) (by omega))]; exact hp613287) (rS1_of he613124 he613295 pl613138.2 (fun _ _ _ _ => Or.inl (by omega)) (fun h1 h2 h3 => (uB_0 x613171 (by omega) h1 h2 h3).elim)) (by have qa0 : Int32.toInt (-1) = (-1) := (by decide); omega) (by have qa0 : Int32.toInt (-1) = (-1) := (by decide); omega) (ms_j hm90_612208 (by omega) (by omega) (by omega)) (eO_c (op := p613125.toInt) (by rw [he613295] <;> rfl) (Or.inr ((gHe r613136).resolve_left (fun z => absurd (ht612274.2.symm.trans z) (by decide))))) kp613297 mk613296
                            · have r613327 : o613198.toInt < 0 := gj_nleL hc613283 (show Int32.toInt 0 = 0 by decide)
                              have bo613198' : gB o613198 (-1) (-1) := ⟨by omega, by omega⟩
                              refine G_iconst 0 dr_cX17_spill_210 (by decide +kernel) ?_
                              exact G_zretA FieldType.boolean dr_cX17_spill_211 rfl rfl (rm_zc pk613231) (rm_zs pk613231) ⟨P613208, F613209, γ, el, 0, rfl, rfl, hs613215, (rm_pp hph613230), hB613213, (gB_w (gBl (show Int32.toInt 0 = 0 by decide)) (by decide) (by decide)), (by have qa0 : Int32.toInt (-1) = (-1) := (by decide); have qa1 : Int32.toInt 0 = 0 := (by decide); omega), (Or.inl (by decide)), kp613216, mk613229⟩
                        · have r613328 : o613170.toInt ≠ 0 := gj_neq hc613172 (show Int32.toInt 0 = 0 by decide)
                          have bo613170' : gB o613170 1 1 := gB_t1 bo613170 r613328
                          refine G_aload 1 dr_cX17_spill_162 rfl ?_
                          refine Gp_get 3 hm613123 he613124 dr_cX17_spill_164 (gk_X15 D I) (Nat.le_of_ble_eq_true rfl) wr_9_186 rfl ?_
                          have rb613329 : gB p613128 0 1999 := (gHe r613134).resolve_left (by have z := (uB_1 x613171 (by omega)).2.2; omega)
                          refine G_goto 171 dr_cX17_spill_167 (by decide +kernel) ?_
                          refine G_istore (L' := [(7, .int p613128), (6, .int p613127), (5, .ref q612267), (4, .int g612186), (3, .ref q610691), (2, .int g610551), (0, .ref q572432), (1, .ref q572433)]) dr_cX17_spill_171 (Nat.le_of_ble_eq_true rfl) rfl ?_
                          refine G_iload 1 dr_cX17_spill_173 rfl ?_
                          refine G_if_lt 236 dr_cX17_spill_175 (by decide +kernel) (fun hc => absurd (show False by have := gj_lt hc (show Int32.toInt 0 = 0 by decide); omega) not_false) (fun _ => ?_)
                          refine G_aload_n 6 dr_cX17_spill_178 rfl ?_
                          refine Gp_get 19 hm612215 he612216 dr_cX17_spill_179 (gk_X17 D I) (Nat.le_of_ble_eq_true rfl) wr_7_93 rfl ?_
                          refine G_iload 1 dr_cX17_spill_182 rfl ?_
                          have hm613330 : (γ 9 19) ∈ P612187 := RS_m hT612189 ht612249 (by decide)
                          obtain ⟨f613332, he613331, bf613332⟩ := show rk_21 I (F612188 (γ 9 19)) from RS_o hT612189 ht612249
                          refine Gp_iald 0 hm613330 he613331 dr_cX17_spill_184 rfl (gB_in rb613164 (by decide) (by decide)) (G_nam fun z613333 hz613333 => ?_)
                          have bz613333 : gB z613333 (-1) 1999 := by rw [hz613333]; exact bf613332 _
                          have c9_613334 : cB (F607300 (γ0 9 19)) = f613332 := by rw [← x612203, ← congrFun (rSk_9 hs612190) 19]; exact cB_of he613331
                          have hs613335 : (cB (F607300 (γ0 9 19)) p613127.toInt.toNat).toInt = z613333.toInt := by rw [c9_613334, hz613333]; rfl
                          refine G_if_lt 236 dr_cX17_spill_185 (by decide +kernel) (fun hc613337 => ?_) (fun hc613337 => ?_)
                          · have r613338 : z613333.toInt < 0 := gj_lt hc613337 (show Int32.toInt 0 = 0 by decide)
                            have bz613333' : gB z613333 (-1) (-1) := ⟨by omega, by omega⟩
                            have ac613339 : (fI (F612188 q572432) 11).toInt = p612221.toInt := by rw [he612216]; rfl
                            have ac613340 : (fI (F612188 q572432) 14).toInt = p612224.toInt := by rw [he612216]; rfl
                            refine G_lv (L' := [(0, .ref q572432), (1, .ref q572433), (2, .int g610551), (3, .ref q610691), (4, .int g612186), (5, .ref q612267), (6, .int p613127), (7, .int p613128)]) [6, 7, 5, 4, 3, 2, 1, 0] rfl ?_
                            exact jn236_612846 P612187 F612188 γ el g612186 q612267 p613127 p613128 (gB_w bg612186' (by decide) (by decide)) (gB_w rb613164 (by decide) (by decide)) (gB_w rb613329 (by decide) (by decide)) hT612189 hs612190 hph612191 hB612192 ht612193 hf612194 r612195 r612196 ht612272 hf612280 (by omega) (by omega) (by omega) (by omega) (by omega) (by omega) x612203 (by exact pl613138.1) (by exact hp613120) (rS1_of he613124 he613124 pl613138.2 (fun _ _ _ _ => Or.inr ⟨rfl, by omega⟩) (fun _ _ _ => Or.inr ⟨rfl, rfl, by omega, (Classical.em (p613128.toInt = p613127.toInt)).elim (fun e => Or.inr (by rw [e]; omega)) (fun e => Or.inl e)⟩)) (by omega) (by omega) (ms_j hm90_612208 (by omega) (by omega) (by omega)) (eO_c (op := p613125.toInt) (by rw [he613124] <;> rfl) (Or.inr ((gHe r613136).resolve_left (fun z => absurd (ht612274.2.symm.trans z) (by decide))))) x612207 x612208
                          · have r613341 : 0 ≤ z613333.toInt := gj_nlt hc613337 (show Int32.toInt 0 = 0 by decide)
                            have bz613333' : gB z613333 0 1999 := ⟨by omega, by omega⟩
                            refine G_aload_n 6 dr_cX17_spill_188 rfl ?_
                            refine G_aload_n 7 dr_cX17_spill_189 rfl ?_
                            refine G_aload_n 4 dr_cX17_spill_190 rfl ?_
                            refine G_iload 3 dr_cX17_spill_191 rfl ?_
                            refine G_aload_n 6 dr_cX17_spill_193 rfl ?_
                            refine Gp_get 19 hm612215 he612216 dr_cX17_spill_194 (gk_X17 D I) (Nat.le_of_ble_eq_true rfl) wr_7_93 rfl ?_
                            refine G_iload 1 dr_cX17_spill_197 rfl ?_
                            refine Gp_iald 0 hm613330 he613331 dr_cX17_spill_199 rfl (gB_in rb613164 (by decide) (by decide)) (G_eqi (y := z613333) hz613333.symm ?_)
                            have r613342 := (spi607385.2.2.2 p613127.toInt.toNat (tn_lt (by omega) (by omega)) (by omega)).2.2
                            have ac613343 : (fI (F612188 q572432) 11).toInt = p612221.toInt := by rw [he612216]; rfl
                            have ac613344 : (fI (F612188 q572432) 14).toInt = p612224.toInt := by rw [he612216]; rfl
                            have rg613345 := rM_ge hT612189 ht612211 hf612212
                            have rm613346 := rM_bd hB612192
                            have bd613347 := rBd_c hT612189 ht612211 hf612212 hB612192
                            have rc613348 := rc_at hT612189 ht612211 hf612212
                            refine Gw_callV (As := [.ref q572433, .ref q610691, .int g612186, .int z613333]) (gV_ok D I) (cg_398156_SpillForgeModel_load l hl0 D I γ el f B P612187 F612188 q572432 q572433 q610691 g612186 z613333 g610551.toInt.toNat hT612189 ht612210 ht612211 ht612193 hf612212 hB612192 hBk r612195 r612196 hf612194 bg612186' bz613333' (by omega) (by omega) (by omega) (by omega) (by omega)) dr_cX17_spill_200 ⟨wr_11_63, wr_1_14, wr_11_66, by decide, rfl, (Nat.le_of_ble_eq_true rfl), (Nat.le_of_ble_eq_true rfl)⟩ wr_11_65 wr_p_111 hm612215 he612216 rfl (rm_gc hph612191 pk612213) (rm_gs hph612191 pk612213) (Nat.le_of_ble_eq_true rfl) (fun r613352 w613353 dc613349 ds613350 hp613351 => ?_) (fun _ _ _ _ _ z => z.elim)
                            obtain ⟨P613364, F613365, γ, el, o613354, rfl, rfl, hk613366, ⟨hr613367, hr613368⟩, hB613369, bo613354, x613355, x613356, x613357, x613358, x613359, x613360, x613361, x613362, x613363⟩ := hp613351
                            have hT613370 := hk613366.1
                            have hs613371 := rSk_tr hs612190 hk613366 (by decide) (by decide) (by decide)
                            have kp613372 : F613365 (γ0 9 3) = F572431 (γ0 9 3) := (rSk_F hk613366 (rSk_k hs612190 k0_3 (by decide) (by decide)) (by decide) (by decide)).trans x612207
                            have kp613373 : F613365 (γ0 9 19) = F607300 (γ0 9 19) := (rSk_F hk613366 (rSk_k hs612190 k0_19 (by decide) (by decide)) (by decide) (by decide)).trans x612203
                            have ht613374 : rKd γ q572432 10 := rSk_k hk613366 ht612210 (by decide) (by decide)
                            have ht613375 : rKd γ q572433 9 := rSk_k hk613366 ht612211 (by decide) (by decide)
                            have hf613376 : γ 1 q572433 = f := rSk_1 hk613366 ht612211 (by decide) hf612212
                            have ht613377 : rKd γ q610691 2 := rSk_k hk613366 ht612193 (by decide) (by decide)
                            have hf613378 : γ 1 q610691 = f := rSk_1 hk613366 ht612193 (by decide) hf612194
                            have ht613379 : rKd γ q612266 3 := rSk_k hk613366 ht612270 (by decide) (by decide)
                            have hf613380 : γ 1 q612266 = f := rSk_1 hk613366 ht612270 (by decide) hf612279
                            have ht613381 : rKd γ q612267 1 := rSk_k hk613366 ht612272 (by decide) (by decide)
                            have hf613382 : γ 1 q612267 = f := rSk_1 hk613366 ht612272 (by decide) hf612280
                            have he613383 : F613365 q612267 = .inr (20, [.int p613125, .int p613126, .int p613127, .int p613128, .int p613129, .int p613130, .int p613131]) := (rSk_F hk613366 ht612272 (by decide) (by decide)).trans he613124
                            have hm613384 : q612267 ∈ P613364 := RS_m hT613370 ht613381 (by decide)
                            clear bp612268 bp612269 r612277 r612278 rg613345 rm613346 bd613347 rc613348
                            have mk613385 : mKp (F572431 q572432) (F613365 q572432) := mKp_tr x612208 x613363
                            have hph613386 : rPh γ0 el0 f ≤ rPh γ el f := rm_ph hph612191 hr613368
                            have pk613387 : rPh γ el f ≤ 387 * B + 6000 := rm_pk (rM_ge hT613370 ht613375 hf613376).1 (rM_bd hB613369)
                            change G _ _ _ _ _ _ _ (.int o613354 :: _) _ _ _
                            refine G_widen (cs' := ((rPh γ el f - rPh γ0 el0 f) / 18)) (sl' := (rPh γ el f - rPh γ0 el0 f)) (rm_wc hph612191 hr613367) (rm_ws hph612191 hr613368) ?_
                            have sz613388 := x613355
                            have r613389 : 0 < γ 6 (γ 1 q572433) := by rw [hf613376]; omega
                            have hm613390 : q572432 ∈ P613364 := RS_m hT613370 ht613374 (by decide)
                            refine rk10_e (show rk_10 γ (F613365 q572432) from RS_o hT613370 ht613374) (fun q613392 q613393 p613394 p613395 p613396 p613397 p613398 p613399 p613400 p613401 p613402 p613403 p613404 p613405 p613406 p613407 p613408 he613391 hB613435 ht613409 ht613410 ht613411 ht613412 ht613413 ht613414 ht613415 ht613416 ht613417 ht613418 ht613419 ht613420 ht613421 ht613422 ht613423 ht613424 ht613425 ht613426 ht613427 ht613428 ht613429 ht613430 ht613431 ht613432 hB613436 => ?_)
                            have ac613437 : (fI (F613365 q572432) 11).toInt = p613396.toInt := by rw [he613391]; rfl
                            have bp613396 : gB p613396 0 100 := (hB613435.2.2.1)
                            have ac613438 : (fI (F613365 q572432) 14).toInt = p613399.toInt := by rw [he613391]; rfl
                            have bp613399 : gB p613399 0 2000 := (hB613435.2.2.2.1)
                            refine G_istore (L' := [(8, .int o613354), (7, .int p613128), (6, .int p613127), (5, .ref q612267), (4, .int g612186), (3, .ref q610691), (2, .int g610551), (0, .ref q572432), (1, .ref q572433)]) dr_cX17_spill_203 (Nat.le_of_ble_eq_true rfl) rfl ?_
                            refine G_iload 0 dr_cX17_spill_205 rfl ?_
                            refine G_if_ge 212 dr_cX17_spill_207 (by decide +kernel) (fun hc613439 => ?_) (fun hc613439 => ?_)
                            · have r613440 : 0 ≤ o613354.toInt := gj_leL hc613439 (show Int32.toInt 0 = 0 by decide)
                              have bo613354' : gB o613354 0 1999 := ⟨by omega, by omega⟩
                              have pl613442 := sp_ld (x613361.resolve_left (by omega)) pl613138.1 (tn_ge (by omega)) (rfl : ((g612186.toInt : Int).toNat + 1) = (g612186.toInt : Int).toNat + 1)
                              have hp613443 : rAt γ el q572433 (g610551.toInt : Int).toNat ((g612186.toInt : Int).toNat + 1) = q612267 := ((x613362.resolve_left (by omega)) (g612186.toInt : Int).toNat (Nat.le_refl _)).trans hp613120
                              have r613444 := x613359.resolve_left (by omega)
                              clear x613359 x613361 x613362
                              obtain ⟨z613445, hz613445⟩ : ∃ z : Int32, z = g612186 + Int32.ofInt 1 := ⟨_, rfl⟩
                              have ez613445 : z613445.toInt = g612186.toInt + 1 := gI_inc hz613445 (by decide) bg612186' (by decide) (by decide)
                              have bz613445 : gB z613445 1 1000001 := ⟨by omega, by omega⟩
                              refine G_iinc (L' := [(4, .int z613445), (8, .int o613354), (7, .int p613128), (6, .int p613127), (5, .ref q612267), (3, .ref q610691), (2, .int g610551), (0, .ref q572432), (1, .ref q572433)]) z613445 4 dr_cX17_spill_212 rfl hz613445.symm (Nat.le_of_ble_eq_true rfl) rfl ?_
                              refine G_aload 4 dr_cX17_spill_215 rfl ?_
                              refine G_iload 1 dr_cX17_spill_217 rfl ?_
                              refine Gp_put 2 hm613384 he613383 dr_cX17_spill_219 (gk_X15 D I) (Nat.le_of_ble_eq_true rfl) wr_9_182 rfl rfl rfl (Nat.le_of_ble_eq_true rfl) (fun F613446 e613447 n613448 => ?_)
                              have r613449 := rk1_at hT613370 ht613381 he613383
                              have he613450 : F613446 q572432 = .inr (22, [.ref (γ 9 0), .ref (γ 9 1), .ref (γ 9 2), .ref (γ 9 3), .ref (γ 9 4), .ref (γ 9 5), .ref (γ 9 6), .ref (γ 9 7), .ref (γ 9 8), .int p613394, .int p613395, .int p613396, .int p613397, .int p613398, .int p613399, .ref (γ 9 15), .ref (γ 9 16), .ref (γ 9 17), .ref (γ 9 18), .ref (γ 9 19), .ref (γ 9 20), .ref (γ 9 21), .ref (γ 9 22), .int p613400, .int p613401, .int p613402, .int p613403, .int p613404, .ref q613392, .ref (γ 9 29), .int p613405, .ref (γ 9 31), .int p613406, .int p613407, .int p613408, .ref q613393]) := (n613448 q572432 (rn_oo he613391 he613383 (by decide))).trans he613391
                              have he613451 : F613446 q612267 = .inr (20, [.int p613125, .int p613126, .int o613354, .int p613128, .int p613129, .int p613130, .int p613131]) := e613447
                              have mk613452 : mKp (F572431 q572432) (F613446 q572432) := mKp_tr mk613385 (mKp_eq (n613448 q572432 (rn_ty ht613374 ht613381 (by decide))))
                              have kp613453 : F613446 (γ0 9 3) = F572431 (γ0 9 3) := (n613448 (γ0 9 3) (rn_ty (rSk_k hs613371 k0_3 (by decide) (by decide)) ht613381 (by decide))).trans kp613372
                              have kp613454 : F613446 (γ0 9 19) = F607300 (γ0 9 19) := (n613448 (γ0 9 19) (rn_ty (rSk_k hs613371 k0_19 (by decide) (by decide)) ht613381 (by decide))).trans kp613373
                              refine G_iload 2 dr_cX17_spill_222 rfl ?_
                              refine G_iload 3 dr_cX17_spill_224 rfl ?_
                              refine G_icmp_ne 236 dr_cX17_spill_226 (by decide +kernel) (fun hc613455 => ?_) (fun hc613455 => ?_)
                              · have r613456 : p613128.toInt ≠ p613127.toInt := gC_ne hc613455
                                have hT613457 : RS D I P613364 F613446 γ el := RS_set hT613370 n613448 ht613381 (by decide) ⟨p613125, p613126, o613354, p613128, p613129, p613130, p613131, he613451, bp613125, bp613126, bp613129, bp613130, bp613131, (gHe r613132), (Or.inr bo613354'), (gHe r613134), r613449.1, r613449.2⟩
                                have hs613459 := rSk_put hs613371 hT613457 n613448 ht613381 (by decide) (by decide)
                                have hm613461 : q610691 ∈ P613364 := RS_m hT613457 ht613377 (by decide)
                                obtain ⟨q613463, q613464, p613465, p613466, he613462, ht613473, ht613467, ht613468, ht613469, ht613470, ht613471, bp613465, bp613466, r613472, r613474, r613475⟩ := show rk_2 γ q610691 (F613446 q610691) from RS_o hT613457 ht613377
                                have hf613476 : γ 1 q613463 = f := (show γ 1 q613463 = γ 1 q610691 from ht613468).trans hf613378
                                have hf613477 : γ 1 q613464 = f := (show γ 1 q613464 = γ 1 q610691 from ht613470).trans hf613378
                                have r613478 : γ 6 (γ 1 q610691) = γ 6 f := by rw [hf613378]
                                have r613479 : γ 7 (γ 1 q610691) = γ 7 f := by rw [hf613378]
                                have r613480 : γ 19 (γ 1 q610691) = γ 19 f := by rw [hf613378]
                                have r613481 := r613472.resolve_left (by omega)
                                clear r613472
                                have r613482 : γ 2 (γ 14 q610691) = γ 2 q613463 := by rw [ht613473.1]
                                have pl613460 := sp_put hT613370 ht613375 hf613376 pl613442 n613448 hp613443 (show (g610551.toInt : Int).toNat < γ 6 f from tn_lt (by omega) (by omega)) (by unfold rwL; rw [x613358.2.2]; exact tn_le1 (by omega) (by omega))
                                have ac613483 : (fI (F613446 q572432) 11).toInt = p613396.toInt := by rw [he613450]; rfl
                                have ac613484 : (fI (F613446 q572432) 14).toInt = p613399.toInt := by rw [he613450]; rfl
                                refine G_lv (L' := [(0, .ref q572432), (1, .ref q572433), (2, .int g610551), (3, .ref q610691), (4, .int z613445), (5, .ref q612267), (6, .int p613127), (7, .int p613128)]) [7, 8, 6, 5, 0, 4, 3, 2] rfl ?_
                                exact jn236_612846 P613364 F613446 γ el z613445 q612267 p613127 p613128 (gB_w bz613445 (by decide) (by decide)) (gB_w rb613164 (by decide) (by decide)) (gB_w rb613329 (by decide) (by decide)) hT613457 hs613459 hph613386 hB613369 ht613377 hf613378 x613358.2.1 x613358.2.2 ht613381 hf613382 (by omega) (by omega) (by omega) (by omega) (by omega) (by omega) kp613454 (by rw [(show (z613445.toInt : Int).toNat = ((g612186.toInt : Int).toNat + 1) from tn_eq1 (by omega) (by omega))]; exact pl613460) (by rw [(show (z613445.toInt : Int).toNat = ((g612186.toInt : Int).toNat + 1) from tn_eq1 (by omega) (by omega))]; exact hp613443) (rS1_of he613124 he613451 pl613138.2 (fun _ _ _ _ => Or.inl (by omega)) (fun _ _ _ => Or.inr ⟨rfl, rfl, by omega, Or.inl (by omega)⟩)) (by omega) (by omega) (ms_j hm90_612208 (by omega) (by omega) (by omega)) (eO_c (op := p613125.toInt) (by rw [he613451] <;> rfl) (Or.inr ((gHe r613136).resolve_left (fun z => absurd (ht612274.2.symm.trans z) (by decide))))) kp613453 mk613452
                              · have r613485 : p613128.toInt = p613127.toInt := gC_eq hc613455
                                refine G_aload 4 dr_cX17_spill_229 rfl ?_
                                refine G_iload 1 dr_cX17_spill_231 rfl ?_
                                refine Gp_put 3 hm613384 he613451 dr_cX17_spill_233 (gk_X15 D I) (Nat.le_of_ble_eq_true rfl) wr_9_186 rfl rfl rfl (Nat.le_of_ble_eq_true rfl) (fun F613486 e613487 n613488 => ?_)
                                have he613489 : F613486 q572432 = .inr (22, [.ref (γ 9 0), .ref (γ 9 1), .ref (γ 9 2), .ref (γ 9 3), .ref (γ 9 4), .ref (γ 9 5), .ref (γ 9 6), .ref (γ 9 7), .ref (γ 9 8), .int p613394, .int p613395, .int p613396, .int p613397, .int p613398, .int p613399, .ref (γ 9 15), .ref (γ 9 16), .ref (γ 9 17), .ref (γ 9 18), .ref (γ 9 19), .ref (γ 9 20), .ref (γ 9 21), .ref (γ 9 22), .int p613400, .int p613401, .int p613402, .int p613403, .int p613404, .ref q613392, .ref (γ 9 29), .int p613405, .ref (γ 9 31), .int p613406, .int p613407, .int p613408, .ref q613393]) := (n613488 q572432 (rn_oo he613450 he613451 (by decide))).trans he613450
                                have he613490 : F613486 q612267 = .inr (20, [.int p613125, .int p613126, .int o613354, .int o613354, .int p613129, .int p613130, .int p613131]) := e613487
                                have mk613491 : mKp (F572431 q572432) (F613486 q572432) := mKp_tr mk613452 (mKp_eq (n613488 q572432 (rn_ty ht613374 ht613381 (by decide))))
                                have n613492 : ∀ b, b ≠ q612267 → F613486 b = F613365 b := fun b hb => (n613488 b hb).trans (n613448 b hb)
                                have kp613493 : F613486 (γ0 9 3) = F572431 (γ0 9 3) := (n613488 (γ0 9 3) (rn_ty (rSk_k hs613371 k0_3 (by decide) (by decide)) ht613381 (by decide))).trans kp613453
                                have kp613494 : F613486 (γ0 9 19) = F607300 (γ0 9 19) := (n613488 (γ0 9 19) (rn_ty (rSk_k hs613371 k0_19 (by decide) (by decide)) ht613381 (by decide))).trans kp613454
                                have hT613495 : RS D I P613364 F613486 γ el := RS_set hT613370 n613492 ht613381 (by decide) ⟨p613125, p613126, o613354, o613354, p613129, p613130, p613131, he613490, bp613125, bp613126, bp613129, bp613130, bp613131, (gHe r613132), (Or.inr bo613354'), (Or.inr bo613354'), r613449.1, r613449.2⟩
                                have hs613497 := rSk_put hs613371 hT613495 n613492 ht613381 (by decide) (by decide)
                                have hm613499 : q610691 ∈ P613364 := RS_m hT613495 ht613377 (by decide)
                                obtain ⟨q613501, q613502, p613503, p613504, he613500, ht613511, ht613505, ht613506, ht613507, ht613508, ht613509, bp613503, bp613504, r613510, r613512, r613513⟩ := show rk_2 γ q610691 (F613486 q610691) from RS_o hT613495 ht613377
                                have hf613514 : γ 1 q613501 = f := (show γ 1 q613501 = γ 1 q610691 from ht613506).trans hf613378
                                have hf613515 : γ 1 q613502 = f := (show γ 1 q613502 = γ 1 q610691 from ht613508).trans hf613378
                                have r613516 : γ 6 (γ 1 q610691) = γ 6 f := by rw [hf613378]
                                have r613517 : γ 7 (γ 1 q610691) = γ 7 f := by rw [hf613378]
                                have r613518 : γ 19 (γ 1 q610691) = γ 19 f := by rw [hf613378]
                                have r613519 := r613510.resolve_left (by omega)
                                clear r613510
                                have r613520 : γ 2 (γ 14 q610691) = γ 2 q613501 := by rw [ht613511.1]
                                have pl613498 := sp_put hT613370 ht613375 hf613376 pl613442 n613492 hp613443 (show (g610551.toInt : Int).toNat < γ 6 f from tn_lt (by omega) (by omega)) (by unfold rwL; rw [x613358.2.2]; exact tn_le1 (by omega) (by omega))
                                have ac613521 : (fI (F613486 q572432) 11).toInt = p613396.toInt := by rw [he613489]; rfl
                                have ac613522 : (fI (F613486 q572432) 14).toInt = p613399.toInt := by rw [he613489]; rfl
                                refine G_lv (L' := [(0, .ref q572432), (1, .ref q572433), (2, .int g610551), (3, .ref q610691), (4, .int z613445), (5, .ref q612267), (6, .int p613127), (7, .int p613128)]) [7, 8, 6, 5, 0, 4, 3, 2] rfl ?_
                                exact jn236_612846 P613364 F613486 γ el z613445 q612267 p613127 p613128 (gB_w bz613445 (by decide) (by decide)) (gB_w rb613164 (by decide) (by decide)) (gB_w rb613329 (by decide) (by decide)) hT613495 hs613497 hph613386 hB613369 ht613377 hf613378 x613358.2.1 x613358.2.2 ht613381 hf613382 (by omega) (by omega) (by omega) (by omega) (by omega) (by omega) kp613494 (by rw [(show (z613445.toInt : Int).toNat = ((g612186.toInt : Int).toNat + 1) from tn_eq1 (by omega) (by omega))]; exact pl613498) (by rw [(show (z613445.toInt : Int).toNat = ((g612186.toInt : Int).toNat + 1) from tn_eq1 (by omega) (by omega))]; exact hp613443) (rS1_of he613124 he613490 pl613138.2 (fun _ _ _ _ => Or.inl (by omega)) (fun _ _ _ => Or.inl (by omega))) (by omega) (by omega) (ms_j hm90_612208 (by omega) (by omega) (by omega)) (eO_c (op := p613125.toInt) (by rw [he613490] <;> rfl) (Or.inr ((gHe r613136).resolve_left (fun z => absurd (ht612274.2.symm.trans z) (by decide))))) kp613493 mk613491
                            · have r613523 : o613354.toInt < 0 := gj_nleL hc613439 (show Int32.toInt 0 = 0 by decide)
                              have bo613354' : gB o613354 (-1) (-1) := ⟨by omega, by omega⟩
                              refine G_iconst 0 dr_cX17_spill_210 (by decide +kernel) ?_
                              exact G_zretA FieldType.boolean dr_cX17_spill_211 rfl rfl (rm_zc pk613387) (rm_zs pk613387) ⟨P613364, F613365, γ, el, 0, rfl, rfl, hs613371, (rm_pp hph613386), hB613369, (gB_w (gBl (show Int32.toInt 0 = 0 by decide)) (by decide) (by decide)), (by have qa0 : Int32.toInt 0 = 0 := (by decide); omega), (Or.inl (by decide)), kp613372, mk613385⟩
                    · have r613524 : g612186.toInt < p612289.toInt := gC_nle hc613118
                      have bg612186'' : gB g612186 0 999999 := ⟨by omega, by omega⟩
                      have bp612289' : gB p612289 1 1000000 := ⟨by omega, by omega⟩
                      refine G_aload_n 1 dr_cX17_spill_114 rfl ?_
                      refine Gp_get 0 hm612264 he612265 dr_cX17_spill_115 (gk_X12 D I) (Nat.le_of_ble_eq_true rfl) wr_9_216 rfl ?_
                      refine G_iload 0 dr_cX17_spill_118 rfl ?_
                      obtain ⟨r613525, r613526, n613533, f613534, r613527, r613528, r613529, r613530, r613531, r613532⟩ := rLC_n r612293 (by omega)
                      have hm613535 : q612290 ∈ P612187 := RS_m hT612189 r613525 (by decide)
                      obtain ⟨q613536, hx613537⟩ : ∃ x, x = el q612266 g612186.toInt.toNat := ⟨_, rfl⟩
                      have hx613538 : f613534 g612186.toNatClampNeg = some q613536 := (r613531 _ (show g612186.toInt.toNat < γ 2 q612266 by first | assumption | omega)).trans (by rw [hx613537])
                      have ht613539 : rKd γ q613536 1 := by rw [hx613537]; exact (r612294 _ (show g612186.toInt.toNat < γ 2 q612266 by first | assumption | omega)).1
                      have ht613540 : rFm γ q613536 q612266 := by rw [hx613537]; exact (r612294 _ (show g612186.toInt.toNat < γ 2 q612266 by first | assumption | omega)).2.1
                      have hf613541 : γ 1 q613536 = f := (show γ 1 q613536 = γ 1 q612266 from ht613540).trans hf612279
                      refine Gw_callV (As := [.int g612186]) (gV_ok D I) (cp_22_ArrayList_get l hl0 D I P612187 F612188 q612266 q612290 g612186 p612288 p612289 f613534 n613533 q613536 hm612286 hm613535 he612287 r613527 (gB_w bg612186'' (by decide) (by decide)) (gB_w bp612289' (by decide) (by decide)) (by omega) (by omega) (by assumption) (by omega)) dr_cX17_spill_120 ⟨wr_10_197, wr_1_18, wr_10_61, by decide, rfl, (Nat.le_of_ble_eq_true rfl), (Nat.le_of_ble_eq_true rfl)⟩ wr_10_59 wr_10_60 hm612286 he612287 rfl (rm_zc pk612213) (rm_zs pk612213) (Nat.le_of_ble_eq_true rfl) (fun r613545 w613546 dc613542 ds613543 hp613544 => ?_) (fun _ _ _ _ _ z => z.elim)
                      obtain ⟨rfl, rfl, hdc, hds⟩ := hp613544
                      change G _ _ _ _ _ _ _ (.ref q613536 :: _) _ _ _
                      refine G_widen (cs' := ((rPh γ el f - rPh γ0 el0 f) / 18)) (sl' := (rPh γ el f - rPh γ0 el0 f)) (rm_d0 hdc) (rm_d0 hds) ?_
                      have hm613547 : q613536 ∈ P612187 := RS_m hT612189 ht613539 (by decide)
                      obtain ⟨p613549, p613550, p613551, p613552, p613553, p613554, p613555, he613548, bp613549, bp613550, bp613553, bp613554, bp613555, r613556, r613557, r613558, r613559, r613560⟩ := show rk_1 γ q613536 (F612188 q613536) from RS_o hT612189 ht613539
                      have bp613551 := gB_any p613551
                      have bp613552 := gB_any p613552
                      replace r613556 : gH _ := r613556
                      replace r613557 : gH _ := r613557
                      replace r613558 : gH _ := r613558
                      replace r613559 : gH _ := r613559
                      replace r613560 : gH _ := r613560
                      have r613561 : γ 7 (γ 1 q613536) = γ 7 f := by rw [hf613541]
                      refine Gp_cast hm613547 he613548 rfl dr_cX17_spill_123 wr_10_198 (gr_cast 1 rfl) ?_
                      refine G_goto 133 dr_cX17_spill_126 (by decide +kernel) ?_
                      have fl613564 : p612289.toInt = γ 2 q612266 := r612291
                      have hp613562 : rAt γ el q572433 (g610551.toInt : Int).toNat (g612186.toInt : Int).toNat = q613536 := (rAt_r r612196 ht612276.1 (by omega)).trans (by rw [hx613537])
                      have hL613563 : (g612186.toInt : Int).toNat ≤ γ 2 (rwL γ el q572433 (g610551.toInt : Int).toNat) := by unfold rwL; rw [r612196, ht612276.1]; exact tn_le0 (by omega) (by omega)
                      have pl613565 := sp_hd x612204 hp613562 (show (g610551.toInt : Int).toNat < γ 6 f from tn_lt (by omega) (by omega)) hL613563
                      refine G_astore (L' := [(5, .ref q613536), (4, .int g612186), (3, .ref q610691), (2, .int g610551), (0, .ref q572432), (1, .ref q572433)]) dr_cX17_spill_133 (Nat.le_of_ble_eq_true rfl) rfl ?_
                      refine G_aload 0 dr_cX17_spill_135 rfl ?_
                      refine Gw_callV (As := []) (gV_ok D I) (cp_398518_Row_usesA l hl0 D I P612187 F612188 q613536 p613549 p613550 p613551 p613552 p613553 p613554 p613555 hm613547 he613548 bp613549 bp613550 bp613553 bp613554 bp613555) dr_cX17_spill_137 ⟨wr_10_188, wr_1_39, wr_10_191, by decide, rfl, (Nat.le_of_ble_eq_true rfl), (Nat.le_of_ble_eq_true rfl)⟩ wr_10_189 wr_10_190 hm613547 he613548 rfl (rm_zc pk612213) (rm_zs pk612213) (Nat.le_of_ble_eq_true rfl) (fun r613569 w613570 dc613566 ds613567 hp613568 => ?_) (fun _ _ _ _ _ z => z.elim)
                      obtain ⟨o613571, rfl, rfl, hdc, hds, bo613571, x613572⟩ := hp613568
                      change G _ _ _ _ _ _ _ (.int o613571 :: _) _ _ _
                      refine G_widen (cs' := ((rPh γ el f - rPh γ0 el0 f) / 18)) (sl' := (rPh γ el f - rPh γ0 el0 f)) (rm_d0 hdc) (rm_d0 hds) ?_
                      refine G_if_eq 151 dr_cX17_spill_140 (by decide +kernel) (fun hc613573 => ?_) (fun hc613573 => ?_)
                      · have r613574 : o613571.toInt = 0 := gj_eq hc613573 (show Int32.toInt 0 = 0 by decide)
                        have bo613571' : gB o613571 0 0 := gB_t0 r613574
                        refine G_iconst (-1) dr_cX17_spill_151 (by decide +kernel) ?_
                        refine G_istore (L' := [(6, .int (-1)), (5, .ref q613536), (4, .int g612186), (3, .ref q610691), (2, .int g610551), (0, .ref q572432), (1, .ref q572433)]) dr_cX17_spill_152 (Nat.le_of_ble_eq_true rfl) rfl ?_
                        refine G_aload 1 dr_cX17_spill_154 rfl ?_
                        refine Gw_callV (As := []) (gV_ok D I) (cp_398542_Row_usesB l hl0 D I P612187 F612188 q613536 p613549 p613550 p613551 p613552 p613553 p613554 p613555 hm613547 he613548 bp613549 bp613550 bp613553 bp613554 bp613555) dr_cX17_spill_156 ⟨wr_10_192, wr_1_39, wr_10_195, by decide, rfl, (Nat.le_of_ble_eq_true rfl), (Nat.le_of_ble_eq_true rfl)⟩ wr_10_193 wr_10_194 hm613547 he613548 rfl (rm_zc pk612213) (rm_zs pk612213) (Nat.le_of_ble_eq_true rfl) (fun r613578 w613579 dc613575 ds613576 hp613577 => ?_) (fun _ _ _ _ _ z => z.elim)
                        obtain ⟨o613580, rfl, rfl, hdc, hds, bo613580, x613581⟩ := hp613577
                        change G _ _ _ _ _ _ _ (.int o613580 :: _) _ _ _
                        refine G_widen (cs' := ((rPh γ el f - rPh γ0 el0 f) / 18)) (sl' := (rPh γ el f - rPh γ0 el0 f)) (rm_d0 hdc) (rm_d0 hds) ?_
                        refine G_if_eq 170 dr_cX17_spill_159 (by decide +kernel) (fun hc613582 => ?_) (fun hc613582 => ?_)
                        · have r613583 : o613580.toInt = 0 := gj_eq hc613582 (show Int32.toInt 0 = 0 by decide)
                          have bo613580' : gB o613580 0 0 := gB_t0 r613583
                          refine G_iconst (-1) dr_cX17_spill_170 (by decide +kernel) ?_
                          refine G_istore (L' := [(7, .int (-1)), (6, .int (-1)), (5, .ref q613536), (4, .int g612186), (3, .ref q610691), (2, .int g610551), (0, .ref q572432), (1, .ref q572433)]) dr_cX17_spill_171 (Nat.le_of_ble_eq_true rfl) rfl ?_
                          refine G_iload 1 dr_cX17_spill_173 rfl ?_
                          refine G_if_lt 236 dr_cX17_spill_175 (by decide +kernel) (fun _ => ?_) (fun hc => absurd hc (by decide))
                          have ac613584 : (fI (F612188 q572432) 11).toInt = p612221.toInt := by rw [he612216]; rfl
                          have ac613585 : (fI (F612188 q572432) 14).toInt = p612224.toInt := by rw [he612216]; rfl
                          refine G_lv (L' := [(0, .ref q572432), (1, .ref q572433), (2, .int g610551), (3, .ref q610691), (4, .int g612186), (5, .ref q613536), (6, .int (-1)), (7, .int (-1))]) [6, 7, 5, 4, 3, 2, 1, 0] rfl ?_
                          exact jn236_612846 P612187 F612188 γ el g612186 q613536 (-1) (-1) (gB_w bg612186'' (by decide) (by decide)) (gB_w (gBl (show Int32.toInt (-1) = (-1) by decide)) (by decide) (by decide)) (gB_w (gBl (show Int32.toInt (-1) = (-1) by decide)) (by decide) (by decide)) hT612189 hs612190 hph612191 hB612192 ht612193 hf612194 r612195 r612196 ht613539 hf613541 (by have qa0 : Int32.toInt (-1) = (-1) := (by decide); omega) (by have qa0 : Int32.toInt (-1) = (-1) := (by decide); omega) (by have qa0 : Int32.toInt (-1) = (-1) := (by decide); omega) (by have qa0 : Int32.toInt (-1) = (-1) := (by decide); omega) (by have qa0 : Int32.toInt (-1) = (-1) := (by decide); omega) (by have qa0 : Int32.toInt (-1) = (-1) := (by decide); omega) x612203 (by exact pl613565.1) (by exact hp613562) (rS1_of he613548 he613548 pl613565.2 (fun h1 h2 h3 h4 => (uA_0 x613572 (by omega) h1 h2 h3 h4).elim) (fun h1 h2 h3 => (uB_0 x613581 (by omega) h1 h2 h3).elim)) (by have qa0 : Int32.toInt (-1) = (-1) := (by decide); omega) (by have qa0 : Int32.toInt (-1) = (-1) := (by decide); omega) (ms_j hm90_612208 (by omega) (by omega) (by omega)) (eO_l (by omega)) x612207 x612208
                        · have r613586 : o613580.toInt ≠ 0 := gj_neq hc613582 (show Int32.toInt 0 = 0 by decide)
                          have bo613580' : gB o613580 1 1 := gB_t1 bo613580 r613586
                          refine G_aload 1 dr_cX17_spill_162 rfl ?_
                          refine Gp_get 3 hm613547 he613548 dr_cX17_spill_164 (gk_X15 D I) (Nat.le_of_ble_eq_true rfl) wr_9_186 rfl ?_
                          have rb613587 : gB p613552 0 1999 := (gHe r613558).resolve_left (by have z := (uB_1 x613581 (by omega)).2.2; omega)
                          refine G_goto 171 dr_cX17_spill_167 (by decide +kernel) ?_
                          refine G_istore (L' := [(7, .int p613552), (6, .int (-1)), (5, .ref q613536), (4, .int g612186), (3, .ref q610691), (2, .int g610551), (0, .ref q572432), (1, .ref q572433)]) dr_cX17_spill_171 (Nat.le_of_ble_eq_true rfl) rfl ?_
                          refine G_iload 1 dr_cX17_spill_173 rfl ?_
                          refine G_if_lt 236 dr_cX17_spill_175 (by decide +kernel) (fun _ => ?_) (fun hc => absurd hc (by decide))
                          have ac613588 : (fI (F612188 q572432) 11).toInt = p612221.toInt := by rw [he612216]; rfl
                          have ac613589 : (fI (F612188 q572432) 14).toInt = p612224.toInt := by rw [he612216]; rfl
                          refine G_lv (L' := [(0, .ref q572432), (1, .ref q572433), (2, .int g610551), (3, .ref q610691), (4, .int g612186), (5, .ref q613536), (6, .int (-1)), (7, .int p613552)]) [6, 7, 5, 4, 3, 2, 1, 0] rfl ?_
                          exact jn236_612846 P612187 F612188 γ el g612186 q613536 (-1) p613552 (gB_w bg612186'' (by decide) (by decide)) (gB_w (gBl (show Int32.toInt (-1) = (-1) by decide)) (by decide) (by decide)) (gB_w rb613587 (by decide) (by decide)) hT612189 hs612190 hph612191 hB612192 ht612193 hf612194 r612195 r612196 ht613539 hf613541 (by have qa0 : Int32.toInt (-1) = (-1) := (by decide); omega) (by have qa0 : Int32.toInt (-1) = (-1) := (by decide); omega) (by have qa0 : Int32.toInt (-1) = (-1) := (by decide); omega) (by have qa0 : Int32.toInt (-1) = (-1) := (by decide); omega) (by have qa0 : Int32.toInt (-1) = (-1) := (by decide); omega) (by have qa0 : Int32.toInt (-1) = (-1) := (by decide); omega) x612203 (by exact pl613565.1) (by exact hp613562) (rS1_of he613548 he613548 pl613565.2 (fun h1 h2 h3 h4 => (uA_0 x613572 (by omega) h1 h2 h3 h4).elim) (fun _ _ _ => Or.inr ⟨rfl, rfl, by omega, Or.inl (by have qa : Int32.toInt (-1) = -1 := (by decide); omega)⟩)) (by have qa0 : Int32.toInt (-1) = (-1) := (by decide); omega) (by have qa0 : Int32.toInt (-1) = (-1) := (by decide); omega) (ms_j hm90_612208 (by omega) (by omega) (by omega)) (eO_l (by omega)) x612207 x612208
                      · have r613590 : o613571.toInt ≠ 0 := gj_neq hc613573 (show Int32.toInt 0 = 0 by decide)
                        have bo613571' : gB o613571 1 1 := gB_t1 bo613571 r613590
                        refine G_aload 0 dr_cX17_spill_143 rfl ?_
                        refine Gp_get 2 hm613547 he613548 dr_cX17_spill_145 (gk_X15 D I) (Nat.le_of_ble_eq_true rfl) wr_9_182 rfl ?_
                        have rb613591 : gB p613551 0 1999 := (gHe r613557).resolve_left (by have z := (uA_1 x613572 (by omega)).2.2.2; omega)
                        refine G_goto 152 dr_cX17_spill_148 (by decide +kernel) ?_
                        refine G_istore (L' := [(6, .int p613551), (5, .ref q613536), (4, .int g612186), (3, .ref q610691), (2, .int g610551), (0, .ref q572432), (1, .ref q572433)]) dr_cX17_spill_152 (Nat.le_of_ble_eq_true rfl) rfl ?_
                        refine G_aload 1 dr_cX17_spill_154 rfl ?_
                        refine Gw_callV (As := []) (gV_ok D I) (cp_398542_Row_usesB l hl0 D I P612187 F612188 q613536 p613549 p613550 p613551 p613552 p613553 p613554 p613555 hm613547 he613548 bp613549 bp613550 bp613553 bp613554 bp613555) dr_cX17_spill_156 ⟨wr_10_192, wr_1_39, wr_10_195, by decide, rfl, (Nat.le_of_ble_eq_true rfl), (Nat.le_of_ble_eq_true rfl)⟩ wr_10_193 wr_10_194 hm613547 he613548 rfl (rm_zc pk612213) (rm_zs pk612213) (Nat.le_of_ble_eq_true rfl) (fun r613595 w613596 dc613592 ds613593 hp613594 => ?_) (fun _ _ _ _ _ z => z.elim)
                        obtain ⟨o613597, rfl, rfl, hdc, hds, bo613597, x613598⟩ := hp613594
                        change G _ _ _ _ _ _ _ (.int o613597 :: _) _ _ _
                        refine G_widen (cs' := ((rPh γ el f - rPh γ0 el0 f) / 18)) (sl' := (rPh γ el f - rPh γ0 el0 f)) (rm_d0 hdc) (rm_d0 hds) ?_
                        refine G_if_eq 170 dr_cX17_spill_159 (by decide +kernel) (fun hc613599 => ?_) (fun hc613599 => ?_)
                        · have r613600 : o613597.toInt = 0 := gj_eq hc613599 (show Int32.toInt 0 = 0 by decide)
                          have bo613597' : gB o613597 0 0 := gB_t0 r613600
                          refine G_iconst (-1) dr_cX17_spill_170 (by decide +kernel) ?_
                          refine G_istore (L' := [(7, .int (-1)), (6, .int p613551), (5, .ref q613536), (4, .int g612186), (3, .ref q610691), (2, .int g610551), (0, .ref q572432), (1, .ref q572433)]) dr_cX17_spill_171 (Nat.le_of_ble_eq_true rfl) rfl ?_
                          refine G_iload 1 dr_cX17_spill_173 rfl ?_
                          refine G_if_lt 236 dr_cX17_spill_175 (by decide +kernel) (fun hc => absurd (show False by have := gj_lt hc (show Int32.toInt 0 = 0 by decide); omega) not_false) (fun _ => ?_)
                          refine G_aload_n 6 dr_cX17_spill_178 rfl ?_
                          refine Gp_get 19 hm612215 he612216 dr_cX17_spill_179 (gk_X17 D I) (Nat.le_of_ble_eq_true rfl) wr_7_93 rfl ?_
                          refine G_iload 1 dr_cX17_spill_182 rfl ?_
                          have hm613601 : (γ 9 19) ∈ P612187 := RS_m hT612189 ht612249 (by decide)
                          obtain ⟨f613603, he613602, bf613603⟩ := show rk_21 I (F612188 (γ 9 19)) from RS_o hT612189 ht612249
                          refine Gp_iald 0 hm613601 he613602 dr_cX17_spill_184 rfl (gB_in rb613591 (by decide) (by decide)) (G_nam fun z613604 hz613604 => ?_)
                          have bz613604 : gB z613604 (-1) 1999 := by rw [hz613604]; exact bf613603 _
                          have c9_613605 : cB (F607300 (γ0 9 19)) = f613603 := by rw [← x612203, ← congrFun (rSk_9 hs612190) 19]; exact cB_of he613602
                          have hs613606 : (cB (F607300 (γ0 9 19)) p613551.toInt.toNat).toInt = z613604.toInt := by rw [c9_613605, hz613604]; rfl
                          refine G_if_lt 236 dr_cX17_spill_185 (by decide +kernel) (fun hc613608 => ?_) (fun hc613608 => ?_)
                          · have r613609 : z613604.toInt < 0 := gj_lt hc613608 (show Int32.toInt 0 = 0 by decide)
                            have bz613604' : gB z613604 (-1) (-1) := ⟨by omega, by omega⟩
                            have ac613610 : (fI (F612188 q572432) 11).toInt = p612221.toInt := by rw [he612216]; rfl
                            have ac613611 : (fI (F612188 q572432) 14).toInt = p612224.toInt := by rw [he612216]; rfl
                            refine G_lv (L' := [(0, .ref q572432), (1, .ref q572433), (2, .int g610551), (3, .ref q610691), (4, .int g612186), (5, .ref q613536), (6, .int p613551), (7, .int (-1))]) [6, 7, 5, 4, 3, 2, 1, 0] rfl ?_
                            exact jn236_612846 P612187 F612188 γ el g612186 q613536 p613551 (-1) (gB_w bg612186'' (by decide) (by decide)) (gB_w rb613591 (by decide) (by decide)) (gB_w (gBl (show Int32.toInt (-1) = (-1) by decide)) (by decide) (by decide)) hT612189 hs612190 hph612191 hB612192 ht612193 hf612194 r612195 r612196 ht613539 hf613541 (by have qa0 : Int32.toInt (-1) = (-1) := (by decide); omega) (by have qa0 : Int32.toInt (-1) = (-1) := (by decide); omega) (by have qa0 : Int32.toInt (-1) = (-1) := (by decide); omega) (by have qa0 : Int32.toInt (-1) = (-1) := (by decide); omega) (by have qa0 : Int32.toInt (-1) = (-1) := (by decide); omega) (by have qa0 : Int32.toInt (-1) = (-1) := (by decide); omega) x612203 (by exact pl613565.1) (by exact hp613562) (rS1_of he613548 he613548 pl613565.2 (fun _ _ _ _ => Or.inr ⟨rfl, by omega⟩) (fun h1 h2 h3 => (uB_0 x613598 (by omega) h1 h2 h3).elim)) (by have qa0 : Int32.toInt (-1) = (-1) := (by decide); omega) (by have qa0 : Int32.toInt (-1) = (-1) := (by decide); omega) (ms_j hm90_612208 (by omega) (by omega) (by omega)) (eO_l (by omega)) x612207 x612208
                          · have r613612 : 0 ≤ z613604.toInt := gj_nlt hc613608 (show Int32.toInt 0 = 0 by decide)
                            have bz613604' : gB z613604 0 1999 := ⟨by omega, by omega⟩
                            refine G_aload_n 6 dr_cX17_spill_188 rfl ?_
                            refine G_aload_n 7 dr_cX17_spill_189 rfl ?_
                            refine G_aload_n 4 dr_cX17_spill_190 rfl ?_
                            refine G_iload 3 dr_cX17_spill_191 rfl ?_
                            refine G_aload_n 6 dr_cX17_spill_193 rfl ?_
                            refine Gp_get 19 hm612215 he612216 dr_cX17_spill_194 (gk_X17 D I) (Nat.le_of_ble_eq_true rfl) wr_7_93 rfl ?_
                            refine G_iload 1 dr_cX17_spill_197 rfl ?_
                            refine Gp_iald 0 hm613601 he613602 dr_cX17_spill_199 rfl (gB_in rb613591 (by decide) (by decide)) (G_eqi (y := z613604) hz613604.symm ?_)
                            have r613613 := (spi607385.2.2.2 p613551.toInt.toNat (tn_lt (by omega) (by omega)) (by omega)).2.2
                            have ac613614 : (fI (F612188 q572432) 11).toInt = p612221.toInt := by rw [he612216]; rfl
                            have ac613615 : (fI (F612188 q572432) 14).toInt = p612224.toInt := by rw [he612216]; rfl
                            have rg613616 := rM_ge hT612189 ht612211 hf612212
                            have rm613617 := rM_bd hB612192
                            have bd613618 := rBd_c hT612189 ht612211 hf612212 hB612192
                            have rc613619 := rc_at hT612189 ht612211 hf612212
                            refine Gw_callV (As := [.ref q572433, .ref q610691, .int g612186, .int z613604]) (gV_ok D I) (cg_398156_SpillForgeModel_load l hl0 D I γ el f B P612187 F612188 q572432 q572433 q610691 g612186 z613604 g610551.toInt.toNat hT612189 ht612210 ht612211 ht612193 hf612212 hB612192 hBk r612195 r612196 hf612194 (gB_w bg612186'' (by decide) (by decide)) bz613604' (by have qa0 : Int32.toInt (-1) = (-1) := (by decide); omega) (by have qa0 : Int32.toInt (-1) = (-1) := (by decide); omega) (by have qa0 : Int32.toInt (-1) = (-1) := (by decide); omega) (by have qa0 : Int32.toInt (-1) = (-1) := (by decide); omega) (by have qa0 : Int32.toInt (-1) = (-1) := (by decide); omega)) dr_cX17_spill_200 ⟨wr_11_63, wr_1_14, wr_11_66, by decide, rfl, (Nat.le_of_ble_eq_true rfl), (Nat.le_of_ble_eq_true rfl)⟩ wr_11_65 wr_p_111 hm612215 he612216 rfl (rm_gc hph612191 pk612213) (rm_gs hph612191 pk612213) (Nat.le_of_ble_eq_true rfl) (fun r613623 w613624 dc613620 ds613621 hp613622 => ?_) (fun _ _ _ _ _ z => z.elim)
                            obtain ⟨P613635, F613636, γ, el, o613625, rfl, rfl, hk613637, ⟨hr613638, hr613639⟩, hB613640, bo613625, x613626, x613627, x613628, x613629, x613630, x613631, x613632, x613633, x613634⟩ := hp613622
                            have hT613641 := hk613637.1
                            have hs613642 := rSk_tr hs612190 hk613637 (by decide) (by decide) (by decide)
                            have kp613643 : F613636 (γ0 9 3) = F572431 (γ0 9 3) := (rSk_F hk613637 (rSk_k hs612190 k0_3 (by decide) (by decide)) (by decide) (by decide)).trans x612207
                            have kp613644 : F613636 (γ0 9 19) = F607300 (γ0 9 19) := (rSk_F hk613637 (rSk_k hs612190 k0_19 (by decide) (by decide)) (by decide) (by decide)).trans x612203
                            have ht613645 : rKd γ q572432 10 := rSk_k hk613637 ht612210 (by decide) (by decide)
                            have ht613646 : rKd γ q572433 9 := rSk_k hk613637 ht612211 (by decide) (by decide)
                            have hf613647 : γ 1 q572433 = f := rSk_1 hk613637 ht612211 (by decide) hf612212
                            have ht613648 : rKd γ q610691 2 := rSk_k hk613637 ht612193 (by decide) (by decide)
                            have hf613649 : γ 1 q610691 = f := rSk_1 hk613637 ht612193 (by decide) hf612194
                            have ht613650 : rKd γ q612266 3 := rSk_k hk613637 ht612270 (by decide) (by decide)
                            have hf613651 : γ 1 q612266 = f := rSk_1 hk613637 ht612270 (by decide) hf612279
                            have ht613652 : rKd γ q613536 1 := rSk_k hk613637 ht613539 (by decide) (by decide)
                            have hf613653 : γ 1 q613536 = f := rSk_1 hk613637 ht613539 (by decide) hf613541
                            have he613654 : F613636 q613536 = .inr (20, [.int p613549, .int p613550, .int p613551, .int p613552, .int p613553, .int p613554, .int p613555]) := (rSk_F hk613637 ht613539 (by decide) (by decide)).trans he613548
                            have hm613655 : q613536 ∈ P613635 := RS_m hT613641 ht613652 (by decide)
                            clear bp612268 bp612269 r612277 r612278 rg613616 rm613617 bd613618 rc613619
                            have mk613656 : mKp (F572431 q572432) (F613636 q572432) := mKp_tr x612208 x613634
                            have hph613657 : rPh γ0 el0 f ≤ rPh γ el f := rm_ph hph612191 hr613639
                            have pk613658 : rPh γ el f ≤ 387 * B + 6000 := rm_pk (rM_ge hT613641 ht613646 hf613647).1 (rM_bd hB613640)
                            change G _ _ _ _ _ _ _ (.int o613625 :: _) _ _ _
                            refine G_widen (cs' := ((rPh γ el f - rPh γ0 el0 f) / 18)) (sl' := (rPh γ el f - rPh γ0 el0 f)) (rm_wc hph612191 hr613638) (rm_ws hph612191 hr613639) ?_
                            have sz613659 := x613626
                            have r613660 : 0 < γ 6 (γ 1 q572433) := by rw [hf613647]; omega
                            have hm613661 : q572432 ∈ P613635 := RS_m hT613641 ht613645 (by decide)
                            refine rk10_e (show rk_10 γ (F613636 q572432) from RS_o hT613641 ht613645) (fun q613663 q613664 p613665 p613666 p613667 p613668 p613669 p613670 p613671 p613672 p613673 p613674 p613675 p613676 p613677 p613678 p613679 he613662 hB613706 ht613680 ht613681 ht613682 ht613683 ht613684 ht613685 ht613686 ht613687 ht613688 ht613689 ht613690 ht613691 ht613692 ht613693 ht613694 ht613695 ht613696 ht613697 ht613698 ht613699 ht613700 ht613701 ht613702 ht613703 hB613707 => ?_)
                            have ac613708 : (fI (F613636 q572432) 11).toInt = p613667.toInt := by rw [he613662]; rfl
                            have bp613667 : gB p613667 0 100 := (hB613706.2.2.1)
                            have ac613709 : (fI (F613636 q572432) 14).toInt = p613670.toInt := by rw [he613662]; rfl
                            have bp613670 : gB p613670 0 2000 := (hB613706.2.2.2.1)
                            refine G_istore (L' := [(8, .int o613625), (7, .int (-1)), (6, .int p613551), (5, .ref q613536), (4, .int g612186), (3, .ref q610691), (2, .int g610551), (0, .ref q572432), (1, .ref q572433)]) dr_cX17_spill_203 (Nat.le_of_ble_eq_true rfl) rfl ?_
                            refine G_iload 0 dr_cX17_spill_205 rfl ?_
                            refine G_if_ge 212 dr_cX17_spill_207 (by decide +kernel) (fun hc613710 => ?_) (fun hc613710 => ?_)
                            · have r613711 : 0 ≤ o613625.toInt := gj_leL hc613710 (show Int32.toInt 0 = 0 by decide)
                              have bo613625' : gB o613625 0 1999 := ⟨by omega, by omega⟩
                              have pl613713 := sp_ld (x613632.resolve_left (by omega)) pl613565.1 (tn_ge (by omega)) (rfl : ((g612186.toInt : Int).toNat + 1) = (g612186.toInt : Int).toNat + 1)
                              have hp613714 : rAt γ el q572433 (g610551.toInt : Int).toNat ((g612186.toInt : Int).toNat + 1) = q613536 := ((x613633.resolve_left (by omega)) (g612186.toInt : Int).toNat (Nat.le_refl _)).trans hp613562
                              have r613715 := x613630.resolve_left (by omega)
                              clear x613630 x613632 x613633
                              obtain ⟨z613716, hz613716⟩ : ∃ z : Int32, z = g612186 + Int32.ofInt 1 := ⟨_, rfl⟩
                              have ez613716 : z613716.toInt = g612186.toInt + 1 := gI_inc hz613716 (by decide) bg612186'' (by decide) (by decide)
                              have bz613716 : gB z613716 1 1000000 := ⟨by omega, by omega⟩
                              refine G_iinc (L' := [(4, .int z613716), (8, .int o613625), (7, .int (-1)), (6, .int p613551), (5, .ref q613536), (3, .ref q610691), (2, .int g610551), (0, .ref q572432), (1, .ref q572433)]) z613716 4 dr_cX17_spill_212 rfl hz613716.symm (Nat.le_of_ble_eq_true rfl) rfl ?_
                              refine G_aload 4 dr_cX17_spill_215 rfl ?_
                              refine G_iload 1 dr_cX17_spill_217 rfl ?_
                              refine Gp_put 2 hm613655 he613654 dr_cX17_spill_219 (gk_X15 D I) (Nat.le_of_ble_eq_true rfl) wr_9_182 rfl rfl rfl (Nat.le_of_ble_eq_true rfl) (fun F613717 e613718 n613719 => ?_)
                              have r613720 := rk1_at hT613641 ht613652 he613654
                              have he613721 : F613717 q572432 = .inr (22, [.ref (γ 9 0), .ref (γ 9 1), .ref (γ 9 2), .ref (γ 9 3), .ref (γ 9 4), .ref (γ 9 5), .ref (γ 9 6), .ref (γ 9 7), .ref (γ 9 8), .int p613665, .int p613666, .int p613667, .int p613668, .int p613669, .int p613670, .ref (γ 9 15), .ref (γ 9 16), .ref (γ 9 17), .ref (γ 9 18), .ref (γ 9 19), .ref (γ 9 20), .ref (γ 9 21), .ref (γ 9 22), .int p613671, .int p613672, .int p613673, .int p613674, .int p613675, .ref q613663, .ref (γ 9 29), .int p613676, .ref (γ 9 31), .int p613677, .int p613678, .int p613679, .ref q613664]) := (n613719 q572432 (rn_oo he613662 he613654 (by decide))).trans he613662
                              have he613722 : F613717 q613536 = .inr (20, [.int p613549, .int p613550, .int o613625, .int p613552, .int p613553, .int p613554, .int p613555]) := e613718
                              have mk613723 : mKp (F572431 q572432) (F613717 q572432) := mKp_tr mk613656 (mKp_eq (n613719 q572432 (rn_ty ht613645 ht613652 (by decide))))
                              have kp613724 : F613717 (γ0 9 3) = F572431 (γ0 9 3) := (n613719 (γ0 9 3) (rn_ty (rSk_k hs613642 k0_3 (by decide) (by decide)) ht613652 (by decide))).trans kp613643
                              have kp613725 : F613717 (γ0 9 19) = F607300 (γ0 9 19) := (n613719 (γ0 9 19) (rn_ty (rSk_k hs613642 k0_19 (by decide) (by decide)) ht613652 (by decide))).trans kp613644
                              refine G_iload 2 dr_cX17_spill_222 rfl ?_
                              refine G_iload 3 dr_cX17_spill_224 rfl ?_
                              refine G_icmp_ne 236 dr_cX17_spill_226 (by decide +kernel) (fun _ => ?_) (fun hc => absurd (show False by have := gj_eqL hc (show Int32.toInt (-1) = (-1) by decide); omega) not_false)
                              have hT613726 : RS D I P613635 F613717 γ el := RS_set hT613641 n613719 ht613652 (by decide) ⟨p613549, p613550, o613625, p613552, p613553, p613554, p613555, he613722, bp613549, bp613550, bp613553, bp613554, bp613555, (gHe r613556), (Or.inr bo613625'), (gHe r613558), r613720.1, r613720.2⟩
                              have hs613728 := rSk_put hs613642 hT613726 n613719 ht613652 (by decide) (by decide)
                              have hm613730 : q610691 ∈ P613635 := RS_m hT613726 ht613648 (by decide)
                              obtain ⟨q613732, q613733, p613734, p613735, he613731, ht613742, ht613736, ht613737, ht613738, ht613739, ht613740, bp613734, bp613735, r613741, r613743, r613744⟩ := show rk_2 γ q610691 (F613717 q610691) from RS_o hT613726 ht613648
                              have hf613745 : γ 1 q613732 = f := (show γ 1 q613732 = γ 1 q610691 from ht613737).trans hf613649
                              have hf613746 : γ 1 q613733 = f := (show γ 1 q613733 = γ 1 q610691 from ht613739).trans hf613649
                              have r613747 : γ 6 (γ 1 q610691) = γ 6 f := by rw [hf613649]
                              have r613748 : γ 7 (γ 1 q610691) = γ 7 f := by rw [hf613649]
                              have r613749 : γ 19 (γ 1 q610691) = γ 19 f := by rw [hf613649]
                              have r613750 := r613741.resolve_left (by omega)
                              clear r613741
                              have r613751 : γ 2 (γ 14 q610691) = γ 2 q613732 := by rw [ht613742.1]
                              have pl613729 := sp_put hT613641 ht613646 hf613647 pl613713 n613719 hp613714 (show (g610551.toInt : Int).toNat < γ 6 f from tn_lt (by omega) (by omega)) (by unfold rwL; rw [x613629.2.2]; exact tn_le1 (by omega) (by omega))
                              have ac613752 : (fI (F613717 q572432) 11).toInt = p613667.toInt := by rw [he613721]; rfl
                              have ac613753 : (fI (F613717 q572432) 14).toInt = p613670.toInt := by rw [he613721]; rfl
                              refine G_lv (L' := [(0, .ref q572432), (1, .ref q572433), (2, .int g610551), (3, .ref q610691), (4, .int z613716), (5, .ref q613536), (6, .int p613551), (7, .int (-1))]) [7, 8, 6, 5, 0, 4, 3, 2] rfl ?_
                              exact jn236_612846 P613635 F613717 γ el z613716 q613536 p613551 (-1) (gB_w bz613716 (by decide) (by decide)) (gB_w rb613591 (by decide) (by decide)) (gB_w (gBl (show Int32.toInt (-1) = (-1) by decide)) (by decide) (by decide)) hT613726 hs613728 hph613657 hB613640 ht613648 hf613649 x613629.2.1 x613629.2.2 ht613652 hf613653 (by have qa0 : Int32.toInt (-1) = (-1) := (by decide); omega) (by have qa0 : Int32.toInt (-1) = (-1) := (by decide); omega) (by have qa0 : Int32.toInt (-1) = (-1) := (by decide); omega) (by have qa0 : Int32.toInt (-1) = (-1) := (by decide); omega) (by have qa0 : Int32.toInt (-1) = (-1) := (by decide); omega) (by have qa0 : Int32.toInt (-1) = (-1) := (by decide); omega) kp613725 (by rw [(show (z613716.toInt : Int).toNat = ((g612186.toInt : Int).toNat + 1) from tn_eq1 (by omega) (by omega))]; exact pl613729) (by rw [(show (z613716.toInt : Int).toNat = ((g612186.toInt : Int).toNat + 1) from tn_eq1 (by omega) (by omega))]; exact hp613714) (rS1_of he613548 he613722 pl613565.2 (fun _ _ _ _ => Or.inl (by omega)) (fun h1 h2 h3 => (uB_0 x613598 (by omega) h1 h2 h3).elim)) (by have qa0 : Int32.toInt (-1) = (-1) := (by decide); omega) (by have qa0 : Int32.toInt (-1) = (-1) := (by decide); omega) (ms_j hm90_612208 (by omega) (by omega) (by omega)) (eO_l (by omega)) kp613724 mk613723
                            · have r613754 : o613625.toInt < 0 := gj_nleL hc613710 (show Int32.toInt 0 = 0 by decide)
                              have bo613625' : gB o613625 (-1) (-1) := ⟨by omega, by omega⟩
                              refine G_iconst 0 dr_cX17_spill_210 (by decide +kernel) ?_
                              exact G_zretA FieldType.boolean dr_cX17_spill_211 rfl rfl (rm_zc pk613658) (rm_zs pk613658) ⟨P613635, F613636, γ, el, 0, rfl, rfl, hs613642, (rm_pp hph613657), hB613640, (gB_w (gBl (show Int32.toInt 0 = 0 by decide)) (by decide) (by decide)), (by have qa0 : Int32.toInt (-1) = (-1) := (by decide); have qa1 : Int32.toInt 0 = 0 := (by decide); omega), (Or.inl (by decide)), kp613643, mk613656⟩
                        · have r613755 : o613597.toInt ≠ 0 := gj_neq hc613599 (show Int32.toInt 0 = 0 by decide)
                          have bo613597' : gB o613597 1 1 := gB_t1 bo613597 r613755
                          refine G_aload 1 dr_cX17_spill_162 rfl ?_
                          refine Gp_get 3 hm613547 he613548 dr_cX17_spill_164 (gk_X15 D I) (Nat.le_of_ble_eq_true rfl) wr_9_186 rfl ?_
                          have rb613756 : gB p613552 0 1999 := (gHe r613558).resolve_left (by have z := (uB_1 x613598 (by omega)).2.2; omega)
                          refine G_goto 171 dr_cX17_spill_167 (by decide +kernel) ?_
                          refine G_istore (L' := [(7, .int p613552), (6, .int p613551), (5, .ref q613536), (4, .int g612186), (3, .ref q610691), (2, .int g610551), (0, .ref q572432), (1, .ref q572433)]) dr_cX17_spill_171 (Nat.le_of_ble_eq_true rfl) rfl ?_
                          refine G_iload 1 dr_cX17_spill_173 rfl ?_
                          refine G_if_lt 236 dr_cX17_spill_175 (by decide +kernel) (fun hc => absurd (show False by have := gj_lt hc (show Int32.toInt 0 = 0 by decide); omega) not_false) (fun _ => ?_)
                          refine G_aload_n 6 dr_cX17_spill_178 rfl ?_
                          refine Gp_get 19 hm612215 he612216 dr_cX17_spill_179 (gk_X17 D I) (Nat.le_of_ble_eq_true rfl) wr_7_93 rfl ?_
                          refine G_iload 1 dr_cX17_spill_182 rfl ?_
                          have hm613757 : (γ 9 19) ∈ P612187 := RS_m hT612189 ht612249 (by decide)
                          obtain ⟨f613759, he613758, bf613759⟩ := show rk_21 I (F612188 (γ 9 19)) from RS_o hT612189 ht612249
                          refine Gp_iald 0 hm613757 he613758 dr_cX17_spill_184 rfl (gB_in rb613591 (by decide) (by decide)) (G_nam fun z613760 hz613760 => ?_)
                          have bz613760 : gB z613760 (-1) 1999 := by rw [hz613760]; exact bf613759 _
                          have c9_613761 : cB (F607300 (γ0 9 19)) = f613759 := by rw [← x612203, ← congrFun (rSk_9 hs612190) 19]; exact cB_of he613758
                          have hs613762 : (cB (F607300 (γ0 9 19)) p613551.toInt.toNat).toInt = z613760.toInt := by rw [c9_613761, hz613760]; rfl
                          refine G_if_lt 236 dr_cX17_spill_185 (by decide +kernel) (fun hc613764 => ?_) (fun hc613764 => ?_)
                          · have r613765 : z613760.toInt < 0 := gj_lt hc613764 (show Int32.toInt 0 = 0 by decide)
                            have bz613760' : gB z613760 (-1) (-1) := ⟨by omega, by omega⟩
                            have ac613766 : (fI (F612188 q572432) 11).toInt = p612221.toInt := by rw [he612216]; rfl
                            have ac613767 : (fI (F612188 q572432) 14).toInt = p612224.toInt := by rw [he612216]; rfl
                            refine G_lv (L' := [(0, .ref q572432), (1, .ref q572433), (2, .int g610551), (3, .ref q610691), (4, .int g612186), (5, .ref q613536), (6, .int p613551), (7, .int p613552)]) [6, 7, 5, 4, 3, 2, 1, 0] rfl ?_
                            exact jn236_612846 P612187 F612188 γ el g612186 q613536 p613551 p613552 (gB_w bg612186'' (by decide) (by decide)) (gB_w rb613591 (by decide) (by decide)) (gB_w rb613756 (by decide) (by decide)) hT612189 hs612190 hph612191 hB612192 ht612193 hf612194 r612195 r612196 ht613539 hf613541 (by omega) (by omega) (by omega) (by omega) (by omega) (by omega) x612203 (by exact pl613565.1) (by exact hp613562) (rS1_of he613548 he613548 pl613565.2 (fun _ _ _ _ => Or.inr ⟨rfl, by omega⟩) (fun _ _ _ => Or.inr ⟨rfl, rfl, by omega, (Classical.em (p613552.toInt = p613551.toInt)).elim (fun e => Or.inr (by rw [e]; omega)) (fun e => Or.inl e)⟩)) (by omega) (by omega) (ms_j hm90_612208 (by omega) (by omega) (by omega)) (eO_l (by omega)) x612207 x612208
                          · have r613768 : 0 ≤ z613760.toInt := gj_nlt hc613764 (show Int32.toInt 0 = 0 by decide)
                            have bz613760' : gB z613760 0 1999 := ⟨by omega, by omega⟩
                            refine G_aload_n 6 dr_cX17_spill_188 rfl ?_
                            refine G_aload_n 7 dr_cX17_spill_189 rfl ?_
                            refine G_aload_n 4 dr_cX17_spill_190 rfl ?_
                            refine G_iload 3 dr_cX17_spill_191 rfl ?_
                            refine G_aload_n 6 dr_cX17_spill_193 rfl ?_
                            refine Gp_get 19 hm612215 he612216 dr_cX17_spill_194 (gk_X17 D I) (Nat.le_of_ble_eq_true rfl) wr_7_93 rfl ?_
                            refine G_iload 1 dr_cX17_spill_197 rfl ?_
                            refine Gp_iald 0 hm613757 he613758 dr_cX17_spill_199 rfl (gB_in rb613591 (by decide) (by decide)) (G_eqi (y := z613760) hz613760.symm ?_)
                            have r613769 := (spi607385.2.2.2 p613551.toInt.toNat (tn_lt (by omega) (by omega)) (by omega)).2.2
                            have ac613770 : (fI (F612188 q572432) 11).toInt = p612221.toInt := by rw [he612216]; rfl
                            have ac613771 : (fI (F612188 q572432) 14).toInt = p612224.toInt := by rw [he612216]; rfl
                            have rg613772 := rM_ge hT612189 ht612211 hf612212
                            have rm613773 := rM_bd hB612192
                            have bd613774 := rBd_c hT612189 ht612211 hf612212 hB612192
                            have rc613775 := rc_at hT612189 ht612211 hf612212
                            refine Gw_callV (As := [.ref q572433, .ref q610691, .int g612186, .int z613760]) (gV_ok D I) (cg_398156_SpillForgeModel_load l hl0 D I γ el f B P612187 F612188 q572432 q572433 q610691 g612186 z613760 g610551.toInt.toNat hT612189 ht612210 ht612211 ht612193 hf612212 hB612192 hBk r612195 r612196 hf612194 (gB_w bg612186'' (by decide) (by decide)) bz613760' (by omega) (by omega) (by omega) (by omega) (by omega)) dr_cX17_spill_200 ⟨wr_11_63, wr_1_14, wr_11_66, by decide, rfl, (Nat.le_of_ble_eq_true rfl), (Nat.le_of_ble_eq_true rfl)⟩ wr_11_65 wr_p_111 hm612215 he612216 rfl (rm_gc hph612191 pk612213) (rm_gs hph612191 pk612213) (Nat.le_of_ble_eq_true rfl) (fun r613779 w613780 dc613776 ds613777 hp613778 => ?_) (fun _ _ _ _ _ z => z.elim)
                            obtain ⟨P613791, F613792, γ, el, o613781, rfl, rfl, hk613793, ⟨hr613794, hr613795⟩, hB613796, bo613781, x613782, x613783, x613784, x613785, x613786, x613787, x613788, x613789, x613790⟩ := hp613778
                            have hT613797 := hk613793.1
                            have hs613798 := rSk_tr hs612190 hk613793 (by decide) (by decide) (by decide)
                            have kp613799 : F613792 (γ0 9 3) = F572431 (γ0 9 3) := (rSk_F hk613793 (rSk_k hs612190 k0_3 (by decide) (by decide)) (by decide) (by decide)).trans x612207
                            have kp613800 : F613792 (γ0 9 19) = F607300 (γ0 9 19) := (rSk_F hk613793 (rSk_k hs612190 k0_19 (by decide) (by decide)) (by decide) (by decide)).trans x612203
                            have ht613801 : rKd γ q572432 10 := rSk_k hk613793 ht612210 (by decide) (by decide)
                            have ht613802 : rKd γ q572433 9 := rSk_k hk613793 ht612211 (by decide) (by decide)
                            have hf613803 : γ 1 q572433 = f := rSk_1 hk613793 ht612211 (by decide) hf612212
                            have ht613804 : rKd γ q610691 2 := rSk_k hk613793 ht612193 (by decide) (by decide)
                            have hf613805 : γ 1 q610691 = f := rSk_1 hk613793 ht612193 (by decide) hf612194
                            have ht613806 : rKd γ q612266 3 := rSk_k hk613793 ht612270 (by decide) (by decide)
                            have hf613807 : γ 1 q612266 = f := rSk_1 hk613793 ht612270 (by decide) hf612279
                            have ht613808 : rKd γ q613536 1 := rSk_k hk613793 ht613539 (by decide) (by decide)
                            have hf613809 : γ 1 q613536 = f := rSk_1 hk613793 ht613539 (by decide) hf613541
                            have he613810 : F613792 q613536 = .inr (20, [.int p613549, .int p613550, .int p613551, .int p613552, .int p613553, .int p613554, .int p613555]) := (rSk_F hk613793 ht613539 (by decide) (by decide)).trans he613548
                            have hm613811 : q613536 ∈ P613791 := RS_m hT613797 ht613808 (by decide)
                            clear bp612268 bp612269 r612277 r612278 rg613772 rm613773 bd613774 rc613775
                            have mk613812 : mKp (F572431 q572432) (F613792 q572432) := mKp_tr x612208 x613790
                            have hph613813 : rPh γ0 el0 f ≤ rPh γ el f := rm_ph hph612191 hr613795
                            have pk613814 : rPh γ el f ≤ 387 * B + 6000 := rm_pk (rM_ge hT613797 ht613802 hf613803).1 (rM_bd hB613796)
                            change G _ _ _ _ _ _ _ (.int o613781 :: _) _ _ _
                            refine G_widen (cs' := ((rPh γ el f - rPh γ0 el0 f) / 18)) (sl' := (rPh γ el f - rPh γ0 el0 f)) (rm_wc hph612191 hr613794) (rm_ws hph612191 hr613795) ?_
                            have sz613815 := x613782
                            have r613816 : 0 < γ 6 (γ 1 q572433) := by rw [hf613803]; omega
                            have hm613817 : q572432 ∈ P613791 := RS_m hT613797 ht613801 (by decide)
                            refine rk10_e (show rk_10 γ (F613792 q572432) from RS_o hT613797 ht613801) (fun q613819 q613820 p613821 p613822 p613823 p613824 p613825 p613826 p613827 p613828 p613829 p613830 p613831 p613832 p613833 p613834 p613835 he613818 hB613862 ht613836 ht613837 ht613838 ht613839 ht613840 ht613841 ht613842 ht613843 ht613844 ht613845 ht613846 ht613847 ht613848 ht613849 ht613850 ht613851 ht613852 ht613853 ht613854 ht613855 ht613856 ht613857 ht613858 ht613859 hB613863 => ?_)
                            have ac613864 : (fI (F613792 q572432) 11).toInt = p613823.toInt := by rw [he613818]; rfl
                            have bp613823 : gB p613823 0 100 := (hB613862.2.2.1)
                            have ac613865 : (fI (F613792 q572432) 14).toInt = p613826.toInt := by rw [he613818]; rfl
                            have bp613826 : gB p613826 0 2000 := (hB613862.2.2.2.1)
                            refine G_istore (L' := [(8, .int o613781), (7, .int p613552), (6, .int p613551), (5, .ref q613536), (4, .int g612186), (3, .ref q610691), (2, .int g610551), (0, .ref q572432), (1, .ref q572433)]) dr_cX17_spill_203 (Nat.le_of_ble_eq_true rfl) rfl ?_
                            refine G_iload 0 dr_cX17_spill_205 rfl ?_
                            refine G_if_ge 212 dr_cX17_spill_207 (by decide +kernel) (fun hc613866 => ?_) (fun hc613866 => ?_)
                            · have r613867 : 0 ≤ o613781.toInt := gj_leL hc613866 (show Int32.toInt 0 = 0 by decide)
                              have bo613781' : gB o613781 0 1999 := ⟨by omega, by omega⟩
                              have pl613869 := sp_ld (x613788.resolve_left (by omega)) pl613565.1 (tn_ge (by omega)) (rfl : ((g612186.toInt : Int).toNat + 1) = (g612186.toInt : Int).toNat + 1)
                              have hp613870 : rAt γ el q572433 (g610551.toInt : Int).toNat ((g612186.toInt : Int).toNat + 1) = q613536 := ((x613789.resolve_left (by omega)) (g612186.toInt : Int).toNat (Nat.le_refl _)).trans hp613562
                              have r613871 := x613786.resolve_left (by omega)
                              clear x613786 x613788 x613789
                              obtain ⟨z613872, hz613872⟩ : ∃ z : Int32, z = g612186 + Int32.ofInt 1 := ⟨_, rfl⟩
                              have ez613872 : z613872.toInt = g612186.toInt + 1 := gI_inc hz613872 (by decide) bg612186'' (by decide) (by decide)
                              have bz613872 : gB z613872 1 1000000 := ⟨by omega, by omega⟩
                              refine G_iinc (L' := [(4, .int z613872), (8, .int o613781), (7, .int p613552), (6, .int p613551), (5, .ref q613536), (3, .ref q610691), (2, .int g610551), (0, .ref q572432), (1, .ref q572433)]) z613872 4 dr_cX17_spill_212 rfl hz613872.symm (Nat.le_of_ble_eq_true rfl) rfl ?_
                              refine G_aload 4 dr_cX17_spill_215 rfl ?_
                              refine G_iload 1 dr_cX17_spill_217 rfl ?_
                              refine Gp_put 2 hm613811 he613810 dr_cX17_spill_219 (gk_X15 D I) (Nat.le_of_ble_eq_true rfl) wr_9_182 rfl rfl rfl (Nat.le_of_ble_eq_true rfl) (fun F613873 e613874 n613875 => ?_)
                              have r613876 := rk1_at hT613797 ht613808 he613810
                              have he613877 : F613873 q572432 = .inr (22, [.ref (γ 9 0), .ref (γ 9 1), .ref (γ 9 2), .ref (γ 9 3), .ref (γ 9 4), .ref (γ 9 5), .ref (γ 9 6), .ref (γ 9 7), .ref (γ 9 8), .int p613821, .int p613822, .int p613823, .int p613824, .int p613825, .int p613826, .ref (γ 9 15), .ref (γ 9 16), .ref (γ 9 17), .ref (γ 9 18), .ref (γ 9 19), .ref (γ 9 20), .ref (γ 9 21), .ref (γ 9 22), .int p613827, .int p613828, .int p613829, .int p613830, .int p613831, .ref q613819, .ref (γ 9 29), .int p613832, .ref (γ 9 31), .int p613833, .int p613834, .int p613835, .ref q613820]) := (n613875 q572432 (rn_oo he613818 he613810 (by decide))).trans he613818
                              have he613878 : F613873 q613536 = .inr (20, [.int p613549, .int p613550, .int o613781, .int p613552, .int p613553, .int p613554, .int p613555]) := e613874
                              have mk613879 : mKp (F572431 q572432) (F613873 q572432) := mKp_tr mk613812 (mKp_eq (n613875 q572432 (rn_ty ht613801 ht613808 (by decide))))
                              have kp613880 : F613873 (γ0 9 3) = F572431 (γ0 9 3) := (n613875 (γ0 9 3) (rn_ty (rSk_k hs613798 k0_3 (by decide) (by decide)) ht613808 (by decide))).trans kp613799
                              have kp613881 : F613873 (γ0 9 19) = F607300 (γ0 9 19) := (n613875 (γ0 9 19) (rn_ty (rSk_k hs613798 k0_19 (by decide) (by decide)) ht613808 (by decide))).trans kp613800
                              refine G_iload 2 dr_cX17_spill_222 rfl ?_
                              refine G_iload 3 dr_cX17_spill_224 rfl ?_
                              refine G_icmp_ne 236 dr_cX17_spill_226 (by decide +kernel) (fun hc613882 => ?_) (fun hc613882 => ?_)
                              · have r613883 : p613552.toInt ≠ p613551.toInt := gC_ne hc613882
                                have hT613884 : RS D I P613791 F613873 γ el := RS_set hT613797 n613875 ht613808 (by decide) ⟨p613549, p613550, o613781, p613552, p613553, p613554, p613555, he613878, bp613549, bp613550, bp613553, bp613554, bp613555, (gHe r613556), (Or.inr bo613781'), (gHe r613558), r613876.1, r613876.2⟩
                                have hs613886 := rSk_put hs613798 hT613884 n613875 ht613808 (by decide) (by decide)
                                have hm613888 : q610691 ∈ P613791 := RS_m hT613884 ht613804 (by decide)
                                obtain ⟨q613890, q613891, p613892, p613893, he613889, ht613900, ht613894, ht613895, ht613896, ht613897, ht613898, bp613892, bp613893, r613899, r613901, r613902⟩ := show rk_2 γ q610691 (F613873 q610691) from RS_o hT613884 ht613804
                                have hf613903 : γ 1 q613890 = f := (show γ 1 q613890 = γ 1 q610691 from ht613895).trans hf613805
                                have hf613904 : γ 1 q613891 = f := (show γ 1 q613891 = γ 1 q610691 from ht613897).trans hf613805
                                have r613905 : γ 6 (γ 1 q610691) = γ 6 f := by rw [hf613805]
                                have r613906 : γ 7 (γ 1 q610691) = γ 7 f := by rw [hf613805]
                                have r613907 : γ 19 (γ 1 q610691) = γ 19 f := by rw [hf613805]
                                have r613908 := r613899.resolve_left (by omega)
                                clear r613899
                                have r613909 : γ 2 (γ 14 q610691) = γ 2 q613890 := by rw [ht613900.1]
                                have pl613887 := sp_put hT613797 ht613802 hf613803 pl613869 n613875 hp613870 (show (g610551.toInt : Int).toNat < γ 6 f from tn_lt (by omega) (by omega)) (by unfold rwL; rw [x613785.2.2]; exact tn_le1 (by omega) (by omega))
                                have ac613910 : (fI (F613873 q572432) 11).toInt = p613823.toInt := by rw [he613877]; rfl
                                have ac613911 : (fI (F613873 q572432) 14).toInt = p613826.toInt := by rw [he613877]; rfl
                                refine G_lv (L' := [(0, .ref q572432), (1, .ref q572433), (2, .int g610551), (3, .ref q610691), (4, .int z613872), (5, .ref q613536), (6, .int p613551), (7, .int p613552)]) [7, 8, 6, 5, 0, 4, 3, 2] rfl ?_
                                exact jn236_612846 P613791 F613873 γ el z613872 q613536 p613551 p613552 (gB_w bz613872 (by decide) (by decide)) (gB_w rb613591 (by decide) (by decide)) (gB_w rb613756 (by decide) (by decide)) hT613884 hs613886 hph613813 hB613796 ht613804 hf613805 x613785.2.1 x613785.2.2 ht613808 hf613809 (by omega) (by omega) (by omega) (by omega) (by omega) (by omega) kp613881 (by rw [(show (z613872.toInt : Int).toNat = ((g612186.toInt : Int).toNat + 1) from tn_eq1 (by omega) (by omega))]; exact pl613887) (by rw [(show (z613872.toInt : Int).toNat = ((g612186.toInt : Int).toNat + 1) from tn_eq1 (by omega) (by omega))]; exact hp613870) (rS1_of he613548 he613878 pl613565.2 (fun _ _ _ _ => Or.inl (by omega)) (fun _ _ _ => Or.inr ⟨rfl, rfl, by omega, Or.inl (by omega)⟩)) (by omega) (by omega) (ms_j hm90_612208 (by omega) (by omega) (by omega)) (eO_l (by omega)) kp613880 mk613879
                              · have r613912 : p613552.toInt = p613551.toInt := gC_eq hc613882
                                refine G_aload 4 dr_cX17_spill_229 rfl ?_
                                refine G_iload 1 dr_cX17_spill_231 rfl ?_
                                refine Gp_put 3 hm613811 he613878 dr_cX17_spill_233 (gk_X15 D I) (Nat.le_of_ble_eq_true rfl) wr_9_186 rfl rfl rfl (Nat.le_of_ble_eq_true rfl) (fun F613913 e613914 n613915 => ?_)
                                have he613916 : F613913 q572432 = .inr (22, [.ref (γ 9 0), .ref (γ 9 1), .ref (γ 9 2), .ref (γ 9 3), .ref (γ 9 4), .ref (γ 9 5), .ref (γ 9 6), .ref (γ 9 7), .ref (γ 9 8), .int p613821, .int p613822, .int p613823, .int p613824, .int p613825, .int p613826, .ref (γ 9 15), .ref (γ 9 16), .ref (γ 9 17), .ref (γ 9 18), .ref (γ 9 19), .ref (γ 9 20), .ref (γ 9 21), .ref (γ 9 22), .int p613827, .int p613828, .int p613829, .int p613830, .int p613831, .ref q613819, .ref (γ 9 29), .int p613832, .ref (γ 9 31), .int p613833, .int p613834, .int p613835, .ref q613820]) := (n613915 q572432 (rn_oo he613877 he613878 (by decide))).trans he613877
                                have he613917 : F613913 q613536 = .inr (20, [.int p613549, .int p613550, .int o613781, .int o613781, .int p613553, .int p613554, .int p613555]) := e613914
                                have mk613918 : mKp (F572431 q572432) (F613913 q572432) := mKp_tr mk613879 (mKp_eq (n613915 q572432 (rn_ty ht613801 ht613808 (by decide))))
                                have n613919 : ∀ b, b ≠ q613536 → F613913 b = F613792 b := fun b hb => (n613915 b hb).trans (n613875 b hb)
                                have kp613920 : F613913 (γ0 9 3) = F572431 (γ0 9 3) := (n613915 (γ0 9 3) (rn_ty (rSk_k hs613798 k0_3 (by decide) (by decide)) ht613808 (by decide))).trans kp613880
                                have kp613921 : F613913 (γ0 9 19) = F607300 (γ0 9 19) := (n613915 (γ0 9 19) (rn_ty (rSk_k hs613798 k0_19 (by decide) (by decide)) ht613808 (by decide))).trans kp613881
                                have hT613922 : RS D I P613791 F613913 γ el := RS_set hT613797 n613919 ht613808 (by decide) ⟨p613549, p613550, o613781, o613781, p613553, p613554, p613555, he613917, bp613549, bp613550, bp613553, bp613554, bp613555, (gHe r613556), (Or.inr bo613781'), (Or.inr bo613781'), r613876.1, r613876.2⟩
                                have hs613924 := rSk_put hs613798 hT613922 n613919 ht613808 (by decide) (by decide)
                                have hm613926 : q610691 ∈ P613791 := RS_m hT613922 ht613804 (by decide)
                                obtain ⟨q613928, q613929, p613930, p613931, he613927, ht613938, ht613932, ht613933, ht613934, ht613935, ht613936, bp613930, bp613931, r613937, r613939, r613940⟩ := show rk_2 γ q610691 (F613913 q610691) from RS_o hT613922 ht613804
                                have hf613941 : γ 1 q613928 = f := (show γ 1 q613928 = γ 1 q610691 from ht613933).trans hf613805
                                have hf613942 : γ 1 q613929 = f := (show γ 1 q613929 = γ 1 q610691 from ht613935).trans hf613805
                                have r613943 : γ 6 (γ 1 q610691) = γ 6 f := by rw [hf613805]
                                have r613944 : γ 7 (γ 1 q610691) = γ 7 f := by rw [hf613805]
                                have r613945 : γ 19 (γ 1 q610691) = γ 19 f := by rw [hf613805]
                                have r613946 := r613937.resolve_left (by omega)
                                clear r613937
                                have r613947 : γ 2 (γ 14 q610691) = γ 2 q613928 := by rw [ht613938.1]
                                have pl613925 := sp_put hT613797 ht613802 hf613803 pl613869 n613919 hp613870 (show (g610551.toInt : Int).toNat < γ 6 f from tn_lt (by omega) (by omega)) (by unfold rwL; rw [x613785.2.2]; exact tn_le1 (by omega) (by omega))
                                have ac613948 : (fI (F613913 q572432) 11).toInt = p613823.toInt := by rw [he613916]; rfl
                                have ac613949 : (fI (F613913 q572432) 14).toInt = p613826.toInt := by rw [he613916]; rfl
                                refine G_lv (L' := [(0, .ref q572432), (1, .ref q572433), (2, .int g610551), (3, .ref q610691), (4, .int z613872), (5, .ref q613536), (6, .int p613551), (7, .int p613552)]) [7, 8, 6, 5, 0, 4, 3, 2] rfl ?_
                                exact jn236_612846 P613791 F613913 γ el z613872 q613536 p613551 p613552 (gB_w bz613872 (by decide) (by decide)) (gB_w rb613591 (by decide) (by decide)) (gB_w rb613756 (by decide) (by decide)) hT613922 hs613924 hph613813 hB613796 ht613804 hf613805 x613785.2.1 x613785.2.2 ht613808 hf613809 (by omega) (by omega) (by omega) (by omega) (by omega) (by omega) kp613921 (by rw [(show (z613872.toInt : Int).toNat = ((g612186.toInt : Int).toNat + 1) from tn_eq1 (by omega) (by omega))]; exact pl613925) (by rw [(show (z613872.toInt : Int).toNat = ((g612186.toInt : Int).toNat + 1) from tn_eq1 (by omega) (by omega))]; exact hp613870) (rS1_of he613548 he613917 pl613565.2 (fun _ _ _ _ => Or.inl (by omega)) (fun _ _ _ => Or.inl (by omega))) (by omega) (by omega) (ms_j hm90_612208 (by omega) (by omega) (by omega)) (eO_l (by omega)) kp613920 mk613918
                            · have r613950 : o613781.toInt < 0 := gj_nleL hc613866 (show Int32.toInt 0 = 0 by decide)
                              have bo613781' : gB o613781 (-1) (-1) := ⟨by omega, by omega⟩
                              refine G_iconst 0 dr_cX17_spill_210 (by decide +kernel) ?_
                              exact G_zretA FieldType.boolean dr_cX17_spill_211 rfl rfl (rm_zc pk613814) (rm_zs pk613814) ⟨P613791, F613792, γ, el, 0, rfl, rfl, hs613798, (rm_pp hph613813), hB613796, (gB_w (gBl (show Int32.toInt 0 = 0 by decide)) (by decide) (by decide)), (by have qa0 : Int32.toInt 0 = 0 := (by decide); omega), (Or.inl (by decide)), kp613799, mk613812⟩
              have ac613951 : (fI (F610553 q572432) 11).toInt = p610580.toInt := by rw [he610575]; rfl
              have ac613952 : (fI (F610553 q572432) 14).toInt = p610583.toInt := by rw [he610575]; rfl
              exact hlp90_612208 ((γ 2 (γ 14 q610691) + 1 - (0 : Int).toNat) + 1) P610552 F610553 γ el 0 (gB_w (gBl (show Int32.toInt 0 = 0 by decide)) (by decide) (by decide)) hT610554 hs610555 hph610556 hB610557 ht610696 hf610718 r610726 r610727 (by have qa0 : Int32.toInt 0 = 0 := (by decide); omega) (by have qa0 : Int32.toInt 0 = 0 := (by decide); omega) (by have qa0 : Int32.toInt 0 = 0 := (by decide); omega) (by have qa0 : Int32.toInt 0 = 0 := (by decide); omega) (by have qa0 : Int32.toInt 0 = 0 := (by decide); omega) (by have qa0 : Int32.toInt 0 = 0 := (by decide); omega) x610564 (by have qa : Int32.toInt 0 = 0 := (by decide); rw [qa]; exact x610565) (by have qa0 : Int32.toInt 0 = 0 := (by decide); omega) (by have qa0 : Int32.toInt 0 = 0 := (by decide); omega) x610566 x610567 (Nat.lt_succ_self _)
        have ac613953 : (fI (F607300 q572432) 11).toInt = p607406.toInt := by rw [he607401]; rfl
        have ac613954 : (fI (F607300 q572432) 14).toInt = p607409.toInt := by rw [he607401]; rfl
        exact hlp73_610567 (((1000001 : Int) - 0).toNat + 1) P607299 F607300 γ el 0 (gB_w (gBl (show Int32.toInt 0 = 0 by decide)) (by decide) (by decide)) hT607391 hs607392 hph607450 hB607449 (by have qa0 : Int32.toInt 0 = 0 := (by decide); omega) (by have qa0 : Int32.toInt 0 = 0 := (by decide); omega) (by have qa0 : Int32.toInt 0 = 0 := (by decide); omega) (by have qa0 : Int32.toInt 0 = 0 := (by decide); omega) (by have qa0 : Int32.toInt 0 = 0 := (by decide); omega) (by have qa0 : Int32.toInt 0 = 0 := (by decide); omega) kp607394 (by have qa : Int32.toInt 0 = 0 := (by decide); rw [qa]; exact pl607453) kp607393 mk607399 (Nat.lt_succ_self _)
      · have r613955 : g607298.toInt < 2000 := gj_nleL hc607381 (show Int32.toInt 2000 = 2000 by decide)
        have bg607298' : gB g607298 0 1999 := ⟨by omega, by omega⟩
        refine G_aload_n 1 dr_cX17_spill_9 rfl ?_
        refine Gp_get 19 hm607319 he607320 dr_cX17_spill_10 (gk_X17 D I) (Nat.le_of_ble_eq_true rfl) wr_7_93 rfl ?_
        refine G_iload_n 0 dr_cX17_spill_13 rfl ?_
        refine G_iconst (-1) dr_cX17_spill_14 (by decide +kernel) ?_
        refine Gp_iast 0 hm607373 he607374 dr_cX17_spill_15 rfl (gB_in bg607298' (by decide) (by decide)) (fun F613956 e613957 n613958 => ?_)
        obtain ⟨f613959, hf613959⟩ : ∃ z, z = upd f607375 g607298.toNatClampNeg (-1) := ⟨_, rfl⟩
        rw [← hf613959] at e613957
        have he613960 : F613956 q572432 = .inr (22, [.ref (γ 9 0), .ref (γ 9 1), .ref (γ 9 2), .ref (γ 9 3), .ref (γ 9 4), .ref (γ 9 5), .ref (γ 9 6), .ref (γ 9 7), .ref (γ 9 8), .int p607323, .int p607324, .int p607325, .int p607326, .int p607327, .int p607328, .ref (γ 9 15), .ref (γ 9 16), .ref (γ 9 17), .ref (γ 9 18), .ref (γ 9 19), .ref (γ 9 20), .ref (γ 9 21), .ref (γ 9 22), .int p607329, .int p607330, .int p607331, .int p607332, .int p607333, .ref q607321, .ref (γ 9 29), .int p607334, .ref (γ 9 31), .int p607335, .int p607336, .int p607337, .ref q607322]) := (n613958 q572432 (rn_oa he607320 he607374)).trans he607320
        have he613961 : F613956 (γ 9 3) = .inl (I .boolean, 2000, .inl f607371) := (n613958 (γ 9 3) (rn_ty ht607343 ht607353 (by decide))).trans he607370
        have he613962 : F613956 (γ 9 17) = .inl (I .int, 2000, .inl f607379) := (n613958 (γ 9 17) (rn_ty ht607351 ht607353 (by decide))).trans he607378
        have he613963 : F613956 (γ 9 19) = .inl (I .int, 2000, .inl f613959) := e613957
        have mk613964 : mKp (F572431 q572432) (F613956 q572432) := mKp_tr x607313 (mKp_eq (n613958 q572432 (rn_ty ht607315 ht607353 (by decide))))
        have kp613965 : F613956 (γ0 9 3) = F572431 (γ0 9 3) := (n613958 (γ0 9 3) (rn_ty (rSk_k hs607302 k0_3 (by decide) (by decide)) ht607353 (by decide))).trans x607312
        have bf613959 : gF f613959 (-1) 1999 := gF_upd hf613959 bf607375 (gB_w (gBl (show Int32.toInt (-1) = (-1) by decide)) (by decide) (by decide))
        have hT613966 : RS D I P607299 F613956 γ el := RS_set hT607301 n613958 ht607353 (by decide) ⟨f613959, he613963, bf613959⟩
        have hs613968 := rSk_put hs607302 hT613966 n613958 ht607353 (by decide) (by decide)
        have pl613969 := rPl_fr hT607301 ht607316 hf607317 x607311 (fun b hb _ => n613958 b (rn_ty (show rKd γ b 1 from hb) ht607353 (by decide)))
        refine G_aload_n 1 dr_cX17_spill_16 rfl ?_
        refine Gp_get 3 hm607319 he613960 dr_cX17_spill_17 (gk_X17 D I) (Nat.le_of_ble_eq_true rfl) wr_7_77 rfl ?_
        refine G_iload_n 0 dr_cX17_spill_20 rfl ?_
        refine Gp_zald 3 hm607369 he613961 dr_cX17_spill_21 rfl (gB_in bg607298' (by decide) (by decide)) (G_nam fun z613970 hz613970 => ?_)
        have bz613970 : gB z613970 0 1 := by rw [hz613970]; exact bf607371 _
        refine G_if_eq 65 dr_cX17_spill_22 (by decide +kernel) (fun hc613971 => ?_) (fun hc613971 => ?_)
        · have r613972 : z613970.toInt = 0 := gj_eq hc613971 (show Int32.toInt 0 = 0 by decide)
          have bz613970' : gB z613970 0 0 := gB_t0 r613972
          obtain ⟨z613973, hz613973⟩ : ∃ z : Int32, z = g607298 + Int32.ofInt 1 := ⟨_, rfl⟩
          have ez613973 : z613973.toInt = g607298.toInt + 1 := gI_inc hz613973 (by decide) bg607298' (by decide) (by decide)
          have bz613973 : gB z613973 1 2000 := ⟨by omega, by omega⟩
          refine G_iinc (L' := [(2, .int z613973), (0, .ref q572432), (1, .ref q572433)]) z613973 0 dr_cX17_spill_65 rfl hz613973.symm (Nat.le_of_ble_eq_true rfl) rfl ?_
          refine G_goto 2 dr_cX17_spill_68 (by decide +kernel) ?_
          have ac613974 : (fI (F613956 q572432) 11).toInt = p607325.toInt := by rw [he613960]; rfl
          have ac613975 : (fI (F613956 q572432) 14).toInt = p607328.toInt := by rw [he613960]; rfl
          have c9_613976 : cB (F572431 (γ0 9 3)) = f607371 := by rw [← kp613965, ← congrFun (rSk_9 hs613968) 3]; exact cB_of he613961
          have c9_613977 : cB (F613956 (γ0 9 19)) = f613959 := by rw [← congrFun (rSk_9 hs613968) 19]; exact cB_of he613963
          exact ih2_607313 P607299 F613956 γ el z613973 (gB_w bz613973 (by decide) (by decide)) hT613966 hs613968 hph607303 hB607304 (by omega) (by omega) (by omega) (by omega) (by omega) (by rw [c9_613976, c9_613977, ac613974]; exact spI_n (h2 := fun _ => 0) hf613959 (by decide) (by omega) ez613973 cq607380) pl613969 kp613965 mk613964 (by omega)
        · have r613978 : z613970.toInt ≠ 0 := gj_neq hc613971 (show Int32.toInt 0 = 0 by decide)
          have bz613970' : gB z613970 1 1 := gB_t1 bz613970 r613978
          refine G_aload_n 1 dr_cX17_spill_25 rfl ?_
          refine Gp_get 17 hm607319 he613960 dr_cX17_spill_26 (gk_X17 D I) (Nat.le_of_ble_eq_true rfl) wr_7_91 rfl ?_
          refine G_iload_n 0 dr_cX17_spill_29 rfl ?_
          refine Gp_iald 0 hm607377 he613962 dr_cX17_spill_30 rfl (gB_in bg607298' (by decide) (by decide)) (G_nam fun z613979 hz613979 => ?_)
          have bz613979 : gB z613979 (-1) 31 := by rw [hz613979]; exact bf607379 _
          refine G_if_lt 37 dr_cX17_spill_31 (by decide +kernel) (fun hc613980 => ?_) (fun hc613980 => ?_)
          · have r613981 : z613979.toInt < 0 := gj_lt hc613980 (show Int32.toInt 0 = 0 by decide)
            have bz613979' : gB z613979 (-1) (-1) := ⟨by omega, by omega⟩
            refine G_iload_n 0 dr_cX17_spill_37 rfl ?_
            refine G_bipush 100 dr_cX17_spill_38 (by decide +kernel) ?_
            refine G_icmp_lt 45 dr_cX17_spill_40 (by decide +kernel) (fun hc613982 => ?_) (fun hc613982 => ?_)
            · have r613983 : g607298.toInt < 100 := gj_lt hc613982 (show Int32.toInt 100 = 100 by decide)
              have bg607298'' : gB g607298 0 99 := ⟨by omega, by omega⟩
              refine G_aload_n 1 dr_cX17_spill_45 rfl ?_
              refine Gp_get 19 hm607319 he613960 dr_cX17_spill_46 (gk_X17 D I) (Nat.le_of_ble_eq_true rfl) wr_7_93 rfl ?_
              refine G_iload_n 0 dr_cX17_spill_49 rfl ?_
              refine G_aload_n 1 dr_cX17_spill_50 rfl ?_
              refine Gp_get 11 hm607319 he613960 dr_cX17_spill_51 (gk_X17 D I) (Nat.le_of_ble_eq_true rfl) wr_7_85 rfl ?_
              refine Gp_iast 0 hm607373 he613963 dr_cX17_spill_54 rfl (gB_in bg607298'' (by decide) (by decide)) (fun F613984 e613985 n613986 => ?_)
              obtain ⟨f613987, hf613987⟩ : ∃ z, z = upd f613959 g607298.toNatClampNeg p607325 := ⟨_, rfl⟩
              rw [← hf613987] at e613985
              have he613988 : F613984 q572432 = .inr (22, [.ref (γ 9 0), .ref (γ 9 1), .ref (γ 9 2), .ref (γ 9 3), .ref (γ 9 4), .ref (γ 9 5), .ref (γ 9 6), .ref (γ 9 7), .ref (γ 9 8), .int p607323, .int p607324, .int p607325, .int p607326, .int p607327, .int p607328, .ref (γ 9 15), .ref (γ 9 16), .ref (γ 9 17), .ref (γ 9 18), .ref (γ 9 19), .ref (γ 9 20), .ref (γ 9 21), .ref (γ 9 22), .int p607329, .int p607330, .int p607331, .int p607332, .int p607333, .ref q607321, .ref (γ 9 29), .int p607334, .ref (γ 9 31), .int p607335, .int p607336, .int p607337, .ref q607322]) := (n613986 q572432 (rn_oa he613960 he613963)).trans he613960
              have he613989 : F613984 (γ 9 3) = .inl (I .boolean, 2000, .inl f607371) := (n613986 (γ 9 3) (rn_ty ht607343 ht607353 (by decide))).trans he613961
              have he613990 : F613984 (γ 9 17) = .inl (I .int, 2000, .inl f607379) := (n613986 (γ 9 17) (rn_ty ht607351 ht607353 (by decide))).trans he613962
              have he613991 : F613984 (γ 9 19) = .inl (I .int, 2000, .inl f613987) := e613985
              have mk613992 : mKp (F572431 q572432) (F613984 q572432) := mKp_tr mk613964 (mKp_eq (n613986 q572432 (rn_ty ht607315 ht607353 (by decide))))
              have kp613993 : F613984 (γ0 9 3) = F572431 (γ0 9 3) := (n613986 (γ0 9 3) (rn_ty (rSk_k hs613968 k0_3 (by decide) (by decide)) ht607353 (by decide))).trans kp613965
              have bf613987 : gF f613987 (-1) 1999 := gF_upd hf613987 bf613959 (gB_w bp607325 (by decide) (by decide))
              have hT613994 : RS D I P607299 F613984 γ el := RS_set hT613966 n613986 ht607353 (by decide) ⟨f613987, he613991, bf613987⟩
              have of613995 : ∀ b, b ≠ (γ 9 19) → F613984 b = F607300 b := fun b hb => (n613986 b hb).trans (n613958 b hb)
              have hs613996 := rSk_put hs613968 hT613994 n613986 ht607353 (by decide) (by decide)
              have pl613997 := rPl_fr hT613966 ht607316 hf607317 pl613969 (fun b hb _ => n613986 b (rn_ty (show rKd γ b 1 from hb) ht607353 (by decide)))
              have cq613998 := spI_s (r1 := g607298.toInt + 1) (s1 := p607325.toInt + 1) hf613959 hf613987 rfl (by omega) (by omega) rfl (by omega) (sd_of hz613970 (by omega) (by omega) (by omega)) rfl cq607380
              have r613999 := cq613998.2
              have r614000 := cq607380.1
              have r614001 := x572437
              rw [c9_607372] at r614001
              have bp607325' : gB p607325 0 99 := ⟨by omega, by omega⟩
              refine G_aload_n 1 dr_cX17_spill_55 rfl ?_
              refine G_dup dr_cX17_spill_56 rfl ?_
              refine Gp_get 11 hm607319 he613988 dr_cX17_spill_57 (gk_X17 D I) (Nat.le_of_ble_eq_true rfl) wr_7_85 rfl ?_
              refine G_iconst 1 dr_cX17_spill_60 (by decide +kernel) ?_
              refine G_iadd dr_cX17_spill_61 (G_nam fun z614002 hz614002 => ?_)
              have ez614002 : z614002.toInt = p607325.toInt + 1 := by rw [gI_add hz614002 bp607325' (gBl (show Int32.toInt 1 = 1 by decide)) (by decide) (by decide), show Int32.toInt 1 = 1 from by decide]
              have bz614002 : gB z614002 1 100 := gB_add (gI_add hz614002 bp607325' (gBl (show Int32.toInt 1 = 1 by decide)) (by decide) (by decide)) bp607325' (gBl (show Int32.toInt 1 = 1 by decide)) (by decide) (by decide)
              refine Gp_put 11 hm607319 he613988 dr_cX17_spill_62 (gk_X17 D I) (Nat.le_of_ble_eq_true rfl) wr_7_85 rfl rfl rfl (Nat.le_of_ble_eq_true rfl) (fun F614003 e614004 n614005 => ?_)
              have he614006 : F614003 (γ 9 3) = .inl (I .boolean, 2000, .inl f607371) := (n614005 (γ 9 3) (rn_ao he613989 he613988)).trans he613989
              have he614007 : F614003 (γ 9 19) = .inl (I .int, 2000, .inl f613987) := (n614005 (γ 9 19) (rn_ao he613991 he613988)).trans he613991
              have he614008 : F614003 (γ 9 17) = .inl (I .int, 2000, .inl f607379) := (n614005 (γ 9 17) (rn_ao he613990 he613988)).trans he613990
              have he614009 : F614003 q572432 = .inr (22, [.ref (γ 9 0), .ref (γ 9 1), .ref (γ 9 2), .ref (γ 9 3), .ref (γ 9 4), .ref (γ 9 5), .ref (γ 9 6), .ref (γ 9 7), .ref (γ 9 8), .int p607323, .int p607324, .int z614002, .int p607326, .int p607327, .int p607328, .ref (γ 9 15), .ref (γ 9 16), .ref (γ 9 17), .ref (γ 9 18), .ref (γ 9 19), .ref (γ 9 20), .ref (γ 9 21), .ref (γ 9 22), .int p607329, .int p607330, .int p607331, .int p607332, .int p607333, .ref q607321, .ref (γ 9 29), .int p607334, .ref (γ 9 31), .int p607335, .int p607336, .int p607337, .ref q607322]) := e614004
              have mk614010 : mKp (F572431 q572432) (F614003 q572432) := mKp_tr mk613992 (by rw [he613988, he614009]; exact ⟨rfl, rfl⟩)
              have kp614011 : F614003 (γ0 9 3) = F572431 (γ0 9 3) := (n614005 (γ0 9 3) (rn_ty (rSk_k hs613996 k0_3 (by decide) (by decide)) ht607315 (by decide))).trans kp613993
              have kp614012 : F614003 (γ0 9 19) = F613984 (γ0 9 19) := n614005 (γ0 9 19) (rn_ty (rSk_k hs613996 k0_19 (by decide) (by decide)) ht607315 (by decide))
              have hT614013 : RS D I P607299 F614003 γ el := RS_set hT613994 n614005 ht607315 (by decide) ⟨q607321, q607322, p607323, p607324, z614002, p607326, p607327, p607328, p607329, p607330, p607331, p607332, p607333, p607334, p607335, p607336, p607337, he614009, ⟨(hB607364.1), (hB607364.2.1), (gB_w bz614002 (by decide) (by decide)), bp607328, (hB607364.2.2.2.2.1), (hB607364.2.2.2.2.2.1), (hB607364.2.2.2.2.2.2.1), (hB607364.2.2.2.2.2.2.2.1), (hB607364.2.2.2.2.2.2.2.2)⟩, ht607338, ht607339, ht607340, ht607341, ht607342, ht607343, ht607344, ht607345, ht607346, ht607347, ht607348, ht607349, ht607350, ht607351, ht607352, ht607353, ht607354, ht607355, ht607356, ht607357, ht607358, ht607359, ht607360, ht607361, hB607365⟩
              have hs614015 := rSk_put hs613996 hT614013 n614005 ht607315 (by decide) (by decide)
              have pl614016 := rPl_fr hT613994 ht607316 hf607317 pl613997 (fun b hb _ => n614005 b (rn_ty (show rKd γ b 1 from hb) ht607315 (by decide)))
              obtain ⟨z614017, hz614017⟩ : ∃ z : Int32, z = g607298 + Int32.ofInt 1 := ⟨_, rfl⟩
              have ez614017 : z614017.toInt = g607298.toInt + 1 := gI_inc hz614017 (by decide) bg607298'' (by decide) (by decide)
              have bz614017 : gB z614017 1 100 := ⟨by omega, by omega⟩
              refine G_iinc (L' := [(2, .int z614017), (0, .ref q572432), (1, .ref q572433)]) z614017 0 dr_cX17_spill_65 rfl hz614017.symm (Nat.le_of_ble_eq_true rfl) rfl ?_
              refine G_goto 2 dr_cX17_spill_68 (by decide +kernel) ?_
              have ac614018 : (fI (F614003 q572432) 11).toInt = z614002.toInt := by rw [he614009]; rfl
              have ac614019 : (fI (F614003 q572432) 14).toInt = p607328.toInt := by rw [he614009]; rfl
              have c9_614020 : cB (F572431 (γ0 9 3)) = f607371 := by rw [← kp614011, ← congrFun (rSk_9 hs614015) 3]; exact cB_of he614006
              have c9_614021 : cB (F614003 (γ0 9 19)) = f613987 := by rw [← congrFun (rSk_9 hs614015) 19]; exact cB_of he614007
              exact ih2_607313 P607299 F614003 γ el z614017 (gB_w bz614017 (by decide) (by decide)) hT614013 hs614015 hph607303 hB607304 (by omega) (by omega) (by omega) (by omega) (by omega) (by rw [c9_614020, c9_614021, ac614018, ez614017, ez614002]; exact cq613998.1) pl614016 kp614011 mk614010 (by omega)
            · have r614022 : 100 ≤ g607298.toInt := gj_nlt hc613982 (show Int32.toInt 100 = 100 by decide)
              have bg607298'' : gB g607298 100 1999 := ⟨by omega, by omega⟩
              refine G_iconst 0 dr_cX17_spill_43 (by decide +kernel) ?_
              exact G_zretA FieldType.boolean dr_cX17_spill_44 rfl rfl (rm_zc pk607318) (rm_zs pk607318) ⟨P607299, F613956, γ, el, 0, rfl, rfl, hs613968, (rm_pp hph607303), hB607304, (gB_w (gBl (show Int32.toInt 0 = 0 by decide)) (by decide) (by decide)), (by have qa0 : Int32.toInt 0 = 0 := (by decide); omega), (Or.inl (by decide)), kp613965, mk613964⟩
          · have r614023 : 0 ≤ z613979.toInt := gj_nlt hc613980 (show Int32.toInt 0 = 0 by decide)
            have bz613979' : gB z613979 0 31 := ⟨by omega, by omega⟩
            refine G_goto 65 dr_cX17_spill_34 (by decide +kernel) ?_
            obtain ⟨z614024, hz614024⟩ : ∃ z : Int32, z = g607298 + Int32.ofInt 1 := ⟨_, rfl⟩
            have ez614024 : z614024.toInt = g607298.toInt + 1 := gI_inc hz614024 (by decide) bg607298' (by decide) (by decide)
            have bz614024 : gB z614024 1 2000 := ⟨by omega, by omega⟩
            refine G_iinc (L' := [(2, .int z614024), (0, .ref q572432), (1, .ref q572433)]) z614024 0 dr_cX17_spill_65 rfl hz614024.symm (Nat.le_of_ble_eq_true rfl) rfl ?_
            refine G_goto 2 dr_cX17_spill_68 (by decide +kernel) ?_
            have ac614025 : (fI (F613956 q572432) 11).toInt = p607325.toInt := by rw [he613960]; rfl
            have ac614026 : (fI (F613956 q572432) 14).toInt = p607328.toInt := by rw [he613960]; rfl
            have c9_614027 : cB (F572431 (γ0 9 3)) = f607371 := by rw [← kp613965, ← congrFun (rSk_9 hs613968) 3]; exact cB_of he613961
            have c9_614028 : cB (F613956 (γ0 9 19)) = f613959 := by rw [← congrFun (rSk_9 hs613968) 19]; exact cB_of he613963
            exact ih2_607313 P607299 F613956 γ el z614024 (gB_w bz614024 (by decide) (by decide)) hT613966 hs613968 hph607303 hB607304 (by omega) (by omega) (by omega) (by omega) (by omega) (by rw [c9_614027, c9_614028, ac614025]; exact spI_n (h2 := fun _ => 0) hf613959 (by decide) (by omega) ez614024 cq607380) pl613969 kp613965 mk613964 (by omega)
  exact hlp2_607313 (((2001 : Int) - 0).toNat + 1) P572430 F572431 γ el 0 (gB_w (gBl (show Int32.toInt 0 = 0 by decide)) (by decide) (by decide)) hT hst hph hB (by have qa0 : Int32.toInt 0 = 0 := (by decide); omega) (by have qa0 : Int32.toInt 0 = 0 := (by decide); omega) (by have qa0 : Int32.toInt 0 = 0 := (by decide); omega) (by have qa0 : Int32.toInt 0 = 0 := (by decide); omega) (by have qa0 : Int32.toInt 0 = 0 := (by decide); omega) (by have qa : Int32.toInt 0 = 0 := (by decide); rw [qa]; exact spI_0) (by rw [hγ0, hel0]; exact x572438) rfl mKp_rf (Nat.lt_succ_self _)
