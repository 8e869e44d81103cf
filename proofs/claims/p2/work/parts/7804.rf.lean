theorem dr_cX17_findDepth_0 : decode cX17_findDepth 0 = .ok (.iconst 0, 1) := by decide +kernel
theorem dr_cX17_findDepth_1 : decode cX17_findDepth 1 = .ok (.istore_n 2, 1) := by decide +kernel
theorem dr_cX17_findDepth_2 : decode cX17_findDepth 2 = .ok (.iload_n 2, 1) := by decide +kernel
theorem dr_cX17_findDepth_3 : decode cX17_findDepth 3 = .ok (.aload_n 1, 1) := by decide +kernel
theorem dr_cX17_findDepth_4 : decode cX17_findDepth 4 = .ok (.invokevirtual 96, 3) := by decide +kernel
theorem dr_cX17_findDepth_7 : decode cX17_findDepth 7 = .ok (.if_icmp .ge 16, 3) := by decide +kernel
theorem dr_cX17_findDepth_23 : decode cX17_findDepth 23 = .ok (.aload_n 1, 1) := by decide +kernel
theorem dr_cX17_findDepth_24 : decode cX17_findDepth 24 = .ok (.iconst (-1), 1) := by decide +kernel
theorem dr_cX17_findDepth_25 : decode cX17_findDepth 25 = .ok (.invokestatic 156, 3) := by decide +kernel
theorem wr_11_41 : (Jvm.Cond.methodLink "SpillForgeModel" (156 : Nat) ({ cls := "SpillForgeModel", name := "reached", desc := "(LSpillForgeModel$Code;I)J" } : Jvm.MethodName)) ∈ gw := gw_11 41 rfl rfl
theorem wr_11_43 : (Jvm.Cond.code ({ cls := "SpillForgeModel", name := "reached", desc := "(LSpillForgeModel$Code;I)J" } : Jvm.MethodName) prog_14_method_12_code (8 : Nat) (Option.some Jvm.ClassFile.FieldType.long)) ∈ gw := gw_11 43 rfl rfl
theorem wr_11_42 : (Jvm.Cond.static ({ cls := "SpillForgeModel", name := "reached", desc := "(LSpillForgeModel$Code;I)J" } : Jvm.MethodName)) ∈ gw := gw_11 42 rfl rfl
theorem dr_cX17_findDepth_28 : decode cX17_findDepth 28 = .ok (.lstore_n 2, 1) := by decide +kernel
theorem dr_cX17_findDepth_29 : decode cX17_findDepth 29 = .ok (.iconst 0, 1) := by decide +kernel
theorem dr_cX17_findDepth_30 : decode cX17_findDepth 30 = .ok (.istore 4, 2) := by decide +kernel
theorem dr_cX17_findDepth_32 : decode cX17_findDepth 32 = .ok (.iload 4, 2) := by decide +kernel
theorem dr_cX17_findDepth_34 : decode cX17_findDepth 34 = .ok (.aload_n 1, 1) := by decide +kernel
theorem dr_cX17_findDepth_35 : decode cX17_findDepth 35 = .ok (.invokevirtual 96, 3) := by decide +kernel
theorem dr_cX17_findDepth_38 : decode cX17_findDepth 38 = .ok (.if_icmp .ge 301, 3) := by decide +kernel
theorem dr_cX17_findDepth_339 : decode cX17_findDepth 339 = .ok (.iconst 0, 1) := by decide +kernel
theorem dr_cX17_findDepth_340 : decode cX17_findDepth 340 = .ok (.istore 4, 2) := by decide +kernel
theorem dr_cX17_findDepth_342 : decode cX17_findDepth 342 = .ok (.iload 4, 2) := by decide +kernel
theorem dr_cX17_findDepth_344 : decode cX17_findDepth 344 = .ok (.aload_n 1, 1) := by decide +kernel
theorem dr_cX17_findDepth_345 : decode cX17_findDepth 345 = .ok (.invokevirtual 96, 3) := by decide +kernel
theorem dr_cX17_findDepth_348 : decode cX17_findDepth 348 = .ok (.if_icmp .ge 27, 3) := by decide +kernel
theorem dr_cX17_findDepth_375 : decode cX17_findDepth 375 = .ok (.return_, 1) := by decide +kernel
theorem dr_cX17_findDepth_351 : decode cX17_findDepth 351 = .ok (.aload_n 0, 1) := by decide +kernel
theorem dr_cX17_findDepth_352 : decode cX17_findDepth 352 = .ok (.getfield 152, 3) := by decide +kernel
theorem wr_7_78 : (Jvm.Cond.fieldLink "SpillForgeModel" (152 : Nat) "SpillForgeModel" "depth" "[I") ∈ gw := gw_7 78 rfl rfl
theorem dr_cX17_findDepth_355 : decode cX17_findDepth 355 = .ok (.iload 4, 2) := by decide +kernel
theorem dr_cX17_findDepth_357 : decode cX17_findDepth 357 = .ok (.aload_n 0, 1) := by decide +kernel
theorem dr_cX17_findDepth_358 : decode cX17_findDepth 358 = .ok (.getfield 152, 3) := by decide +kernel
theorem dr_cX17_findDepth_361 : decode cX17_findDepth 361 = .ok (.iload 4, 2) := by decide +kernel
theorem dr_cX17_findDepth_363 : decode cX17_findDepth 363 = .ok (.iaload, 1) := by decide +kernel
theorem dr_cX17_findDepth_364 : decode cX17_findDepth 364 = .ok (.iconst 4, 1) := by decide +kernel
theorem dr_cX17_findDepth_365 : decode cX17_findDepth 365 = .ok (.invokestatic 164, 3) := by decide +kernel
theorem wr_11_20 : (Jvm.Cond.methodLink "SpillForgeModel" (164 : Nat) ({ cls := "java/lang/Math", name := "min", desc := "(II)I" } : Jvm.MethodName)) ∈ gw := gw_11 20 rfl rfl
theorem dr_cX17_findDepth_368 : decode cX17_findDepth 368 = .ok (.iastore, 1) := by decide +kernel
theorem dr_cX17_findDepth_369 : decode cX17_findDepth 369 = .ok (.iinc 4 1, 3) := by decide +kernel
theorem dr_cX17_findDepth_372 : decode cX17_findDepth 372 = .ok (.goto (-30), 3) := by decide +kernel
theorem dr_cX17_findDepth_41 : decode cX17_findDepth 41 = .ok (.lload_n 2, 1) := by decide +kernel
theorem dr_cX17_findDepth_42 : decode cX17_findDepth 42 = .ok (.iload 4, 2) := by decide +kernel
theorem dr_cX17_findDepth_44 : decode cX17_findDepth 44 = .ok (.lushr, 1) := by decide +kernel
theorem dr_cX17_findDepth_45 : decode cX17_findDepth 45 = .ok (.lconst 1, 1) := by decide +kernel
theorem dr_cX17_findDepth_46 : decode cX17_findDepth 46 = .ok (.land, 1) := by decide +kernel
theorem dr_cX17_findDepth_47 : decode cX17_findDepth 47 = .ok (.lconst 0, 1) := by decide +kernel
theorem dr_cX17_findDepth_48 : decode cX17_findDepth 48 = .ok (.lcmp, 1) := by decide +kernel
theorem dr_cX17_findDepth_49 : decode cX17_findDepth 49 = .ok (.ifCond .ne 6, 3) := by decide +kernel
theorem dr_cX17_findDepth_55 : decode cX17_findDepth 55 = .ok (.lload_n 2, 1) := by decide +kernel
theorem dr_cX17_findDepth_56 : decode cX17_findDepth 56 = .ok (.aload_n 1, 1) := by decide +kernel
theorem dr_cX17_findDepth_57 : decode cX17_findDepth 57 = .ok (.iload 4, 2) := by decide +kernel
theorem dr_cX17_findDepth_59 : decode cX17_findDepth 59 = .ok (.invokestatic 156, 3) := by decide +kernel
theorem dr_cX17_findDepth_62 : decode cX17_findDepth 62 = .ok (.ldc2_w 31, 3) := by decide +kernel
theorem dr_cX17_findDepth_65 : decode cX17_findDepth 65 = .ok (.lxor, 1) := by decide +kernel
theorem dr_cX17_findDepth_66 : decode cX17_findDepth 66 = .ok (.land, 1) := by decide +kernel
theorem dr_cX17_findDepth_67 : decode cX17_findDepth 67 = .ok (.lstore 5, 2) := by decide +kernel
theorem dr_cX17_findDepth_69 : decode cX17_findDepth 69 = .ok (.lconst 0, 1) := by decide +kernel
theorem dr_cX17_findDepth_70 : decode cX17_findDepth 70 = .ok (.lstore 7, 2) := by decide +kernel
theorem dr_cX17_findDepth_72 : decode cX17_findDepth 72 = .ok (.iconst 0, 1) := by decide +kernel
theorem dr_cX17_findDepth_73 : decode cX17_findDepth 73 = .ok (.istore 9, 2) := by decide +kernel
theorem dr_cX17_findDepth_75 : decode cX17_findDepth 75 = .ok (.iload 9, 2) := by decide +kernel
theorem dr_cX17_findDepth_77 : decode cX17_findDepth 77 = .ok (.aload_n 1, 1) := by decide +kernel
theorem dr_cX17_findDepth_78 : decode cX17_findDepth 78 = .ok (.invokevirtual 96, 3) := by decide +kernel
theorem dr_cX17_findDepth_81 : decode cX17_findDepth 81 = .ok (.if_icmp .ge 44, 3) := by decide +kernel
theorem dr_cX17_findDepth_125 : decode cX17_findDepth 125 = .ok (.lload 7, 2) := by decide +kernel
theorem dr_cX17_findDepth_127 : decode cX17_findDepth 127 = .ok (.lconst 0, 1) := by decide +kernel
theorem dr_cX17_findDepth_128 : decode cX17_findDepth 128 = .ok (.lcmp, 1) := by decide +kernel
theorem dr_cX17_findDepth_129 : decode cX17_findDepth 129 = .ok (.ifCond .ne 6, 3) := by decide +kernel
theorem dr_cX17_findDepth_135 : decode cX17_findDepth 135 = .ok (.lload 7, 2) := by decide +kernel
theorem dr_cX17_findDepth_137 : decode cX17_findDepth 137 = .ok (.lconst 1, 1) := by decide +kernel
theorem dr_cX17_findDepth_138 : decode cX17_findDepth 138 = .ok (.iload 4, 2) := by decide +kernel
theorem dr_cX17_findDepth_140 : decode cX17_findDepth 140 = .ok (.lshl, 1) := by decide +kernel
theorem dr_cX17_findDepth_141 : decode cX17_findDepth 141 = .ok (.lor, 1) := by decide +kernel
theorem dr_cX17_findDepth_142 : decode cX17_findDepth 142 = .ok (.lstore 7, 2) := by decide +kernel
theorem dr_cX17_findDepth_144 : decode cX17_findDepth 144 = .ok (.iconst 1, 1) := by decide +kernel
theorem dr_cX17_findDepth_145 : decode cX17_findDepth 145 = .ok (.istore 9, 2) := by decide +kernel
theorem dr_cX17_findDepth_147 : decode cX17_findDepth 147 = .ok (.iload 9, 2) := by decide +kernel
theorem dr_cX17_findDepth_149 : decode cX17_findDepth 149 = .ok (.ifCond .eq 148, 3) := by decide +kernel
theorem dr_cX17_findDepth_297 : decode cX17_findDepth 297 = .ok (.iconst 0, 1) := by decide +kernel
theorem dr_cX17_findDepth_298 : decode cX17_findDepth 298 = .ok (.istore 10, 2) := by decide +kernel
theorem dr_cX17_findDepth_300 : decode cX17_findDepth 300 = .ok (.iload 10, 2) := by decide +kernel
theorem dr_cX17_findDepth_302 : decode cX17_findDepth 302 = .ok (.aload_n 1, 1) := by decide +kernel
theorem dr_cX17_findDepth_303 : decode cX17_findDepth 303 = .ok (.invokevirtual 96, 3) := by decide +kernel
theorem dr_cX17_findDepth_306 : decode cX17_findDepth 306 = .ok (.if_icmp .ge 27, 3) := by decide +kernel
theorem dr_cX17_findDepth_333 : decode cX17_findDepth 333 = .ok (.iinc 4 1, 3) := by decide +kernel
theorem dr_cX17_findDepth_336 : decode cX17_findDepth 336 = .ok (.goto (-304), 3) := by decide +kernel
theorem dr_cX17_findDepth_309 : decode cX17_findDepth 309 = .ok (.aload_n 0, 1) := by decide +kernel
theorem dr_cX17_findDepth_310 : decode cX17_findDepth 310 = .ok (.getfield 152, 3) := by decide +kernel
theorem dr_cX17_findDepth_313 : decode cX17_findDepth 313 = .ok (.iload 10, 2) := by decide +kernel
theorem dr_cX17_findDepth_315 : decode cX17_findDepth 315 = .ok (.dup2, 1) := by decide +kernel
theorem dr_cX17_findDepth_316 : decode cX17_findDepth 316 = .ok (.iaload, 1) := by decide +kernel
theorem dr_cX17_findDepth_317 : decode cX17_findDepth 317 = .ok (.lload 7, 2) := by decide +kernel
theorem dr_cX17_findDepth_319 : decode cX17_findDepth 319 = .ok (.iload 10, 2) := by decide +kernel
theorem dr_cX17_findDepth_321 : decode cX17_findDepth 321 = .ok (.lushr, 1) := by decide +kernel
theorem dr_cX17_findDepth_322 : decode cX17_findDepth 322 = .ok (.lconst 1, 1) := by decide +kernel
theorem dr_cX17_findDepth_323 : decode cX17_findDepth 323 = .ok (.land, 1) := by decide +kernel
theorem dr_cX17_findDepth_324 : decode cX17_findDepth 324 = .ok (.l2i, 1) := by decide +kernel
theorem dr_cX17_findDepth_325 : decode cX17_findDepth 325 = .ok (.iadd, 1) := by decide +kernel
theorem dr_cX17_findDepth_326 : decode cX17_findDepth 326 = .ok (.iastore, 1) := by decide +kernel
theorem dr_cX17_findDepth_327 : decode cX17_findDepth 327 = .ok (.iinc 10 1, 3) := by decide +kernel
theorem dr_cX17_findDepth_330 : decode cX17_findDepth 330 = .ok (.goto (-30), 3) := by decide +kernel
theorem dr_cX17_findDepth_152 : decode cX17_findDepth 152 = .ok (.iconst 0, 1) := by decide +kernel
theorem dr_cX17_findDepth_153 : decode cX17_findDepth 153 = .ok (.istore 9, 2) := by decide +kernel
theorem dr_cX17_findDepth_155 : decode cX17_findDepth 155 = .ok (.iconst 0, 1) := by decide +kernel
theorem dr_cX17_findDepth_156 : decode cX17_findDepth 156 = .ok (.istore 10, 2) := by decide +kernel
theorem dr_cX17_findDepth_158 : decode cX17_findDepth 158 = .ok (.iload 10, 2) := by decide +kernel
theorem dr_cX17_findDepth_160 : decode cX17_findDepth 160 = .ok (.aload_n 1, 1) := by decide +kernel
theorem dr_cX17_findDepth_161 : decode cX17_findDepth 161 = .ok (.invokevirtual 96, 3) := by decide +kernel
theorem dr_cX17_findDepth_164 : decode cX17_findDepth 164 = .ok (.if_icmp .ge 130, 3) := by decide +kernel
theorem dr_cX17_findDepth_294 : decode cX17_findDepth 294 = .ok (.goto (-147), 3) := by decide +kernel
theorem dr_cX17_findDepth_167 : decode cX17_findDepth 167 = .ok (.lload 7, 2) := by decide +kernel
theorem dr_cX17_findDepth_169 : decode cX17_findDepth 169 = .ok (.iload 10, 2) := by decide +kernel
theorem dr_cX17_findDepth_171 : decode cX17_findDepth 171 = .ok (.lushr, 1) := by decide +kernel
theorem dr_cX17_findDepth_172 : decode cX17_findDepth 172 = .ok (.lconst 1, 1) := by decide +kernel
theorem dr_cX17_findDepth_173 : decode cX17_findDepth 173 = .ok (.land, 1) := by decide +kernel
theorem dr_cX17_findDepth_174 : decode cX17_findDepth 174 = .ok (.lconst 0, 1) := by decide +kernel
theorem dr_cX17_findDepth_175 : decode cX17_findDepth 175 = .ok (.lcmp, 1) := by decide +kernel
theorem dr_cX17_findDepth_176 : decode cX17_findDepth 176 = .ok (.ifCond .ne 112, 3) := by decide +kernel
theorem dr_cX17_findDepth_288 : decode cX17_findDepth 288 = .ok (.iinc 10 1, 3) := by decide +kernel
theorem dr_cX17_findDepth_291 : decode cX17_findDepth 291 = .ok (.goto (-133), 3) := by decide +kernel
theorem dr_cX17_findDepth_179 : decode cX17_findDepth 179 = .ok (.lload_n 2, 1) := by decide +kernel
theorem dr_cX17_findDepth_180 : decode cX17_findDepth 180 = .ok (.iload 10, 2) := by decide +kernel
theorem dr_cX17_findDepth_182 : decode cX17_findDepth 182 = .ok (.lushr, 1) := by decide +kernel
theorem dr_cX17_findDepth_183 : decode cX17_findDepth 183 = .ok (.lconst 1, 1) := by decide +kernel
theorem dr_cX17_findDepth_184 : decode cX17_findDepth 184 = .ok (.land, 1) := by decide +kernel
theorem dr_cX17_findDepth_185 : decode cX17_findDepth 185 = .ok (.lconst 0, 1) := by decide +kernel
theorem dr_cX17_findDepth_186 : decode cX17_findDepth 186 = .ok (.lcmp, 1) := by decide +kernel
theorem dr_cX17_findDepth_187 : decode cX17_findDepth 187 = .ok (.ifCond .ne 6, 3) := by decide +kernel
theorem dr_cX17_findDepth_193 : decode cX17_findDepth 193 = .ok (.iconst 0, 1) := by decide +kernel
theorem dr_cX17_findDepth_194 : decode cX17_findDepth 194 = .ok (.istore 11, 2) := by decide +kernel
theorem dr_cX17_findDepth_196 : decode cX17_findDepth 196 = .ok (.iconst 0, 1) := by decide +kernel
theorem dr_cX17_findDepth_197 : decode cX17_findDepth 197 = .ok (.istore 12, 2) := by decide +kernel
theorem dr_cX17_findDepth_199 : decode cX17_findDepth 199 = .ok (.iload 12, 2) := by decide +kernel
theorem dr_cX17_findDepth_201 : decode cX17_findDepth 201 = .ok (.aload_n 1, 1) := by decide +kernel
theorem dr_cX17_findDepth_202 : decode cX17_findDepth 202 = .ok (.iload 10, 2) := by decide +kernel
theorem dr_cX17_findDepth_204 : decode cX17_findDepth 204 = .ok (.invokevirtual 101, 3) := by decide +kernel
theorem dr_cX17_findDepth_207 : decode cX17_findDepth 207 = .ok (.invokevirtual 82, 3) := by decide +kernel
theorem dr_cX17_findDepth_210 : decode cX17_findDepth 210 = .ok (.if_icmp .ge 58, 3) := by decide +kernel
theorem dr_cX17_findDepth_268 : decode cX17_findDepth 268 = .ok (.iload 11, 2) := by decide +kernel
theorem dr_cX17_findDepth_270 : decode cX17_findDepth 270 = .ok (.ifCond .ne 6, 3) := by decide +kernel
theorem dr_cX17_findDepth_276 : decode cX17_findDepth 276 = .ok (.lload 7, 2) := by decide +kernel
theorem dr_cX17_findDepth_278 : decode cX17_findDepth 278 = .ok (.lconst 1, 1) := by decide +kernel
theorem dr_cX17_findDepth_279 : decode cX17_findDepth 279 = .ok (.iload 10, 2) := by decide +kernel
theorem dr_cX17_findDepth_281 : decode cX17_findDepth 281 = .ok (.lshl, 1) := by decide +kernel
theorem dr_cX17_findDepth_282 : decode cX17_findDepth 282 = .ok (.lor, 1) := by decide +kernel
theorem dr_cX17_findDepth_283 : decode cX17_findDepth 283 = .ok (.lstore 7, 2) := by decide +kernel
theorem dr_cX17_findDepth_285 : decode cX17_findDepth 285 = .ok (.iconst 1, 1) := by decide +kernel
theorem dr_cX17_findDepth_286 : decode cX17_findDepth 286 = .ok (.istore 9, 2) := by decide +kernel
theorem dr_cX17_findDepth_273 : decode cX17_findDepth 273 = .ok (.goto 15, 3) := by decide +kernel
theorem dr_cX17_findDepth_213 : decode cX17_findDepth 213 = .ok (.iload 11, 2) := by decide +kernel
theorem dr_cX17_findDepth_215 : decode cX17_findDepth 215 = .ok (.ifCond .ne 40, 3) := by decide +kernel
theorem dr_cX17_findDepth_255 : decode cX17_findDepth 255 = .ok (.iconst 1, 1) := by decide +kernel
theorem dr_cX17_findDepth_256 : decode cX17_findDepth 256 = .ok (.goto 4, 3) := by decide +kernel
theorem dr_cX17_findDepth_260 : decode cX17_findDepth 260 = .ok (.istore 11, 2) := by decide +kernel
theorem dr_cX17_findDepth_262 : decode cX17_findDepth 262 = .ok (.iinc 12 1, 3) := by decide +kernel
theorem dr_cX17_findDepth_265 : decode cX17_findDepth 265 = .ok (.goto (-66), 3) := by decide +kernel
theorem dr_cX17_findDepth_218 : decode cX17_findDepth 218 = .ok (.aload_n 1, 1) := by decide +kernel
theorem dr_cX17_findDepth_219 : decode cX17_findDepth 219 = .ok (.iload 10, 2) := by decide +kernel
theorem dr_cX17_findDepth_221 : decode cX17_findDepth 221 = .ok (.invokevirtual 101, 3) := by decide +kernel
theorem dr_cX17_findDepth_224 : decode cX17_findDepth 224 = .ok (.iload 12, 2) := by decide +kernel
theorem dr_cX17_findDepth_226 : decode cX17_findDepth 226 = .ok (.invokevirtual 92, 3) := by decide +kernel
theorem dr_cX17_findDepth_229 : decode cX17_findDepth 229 = .ok (.iload 4, 2) := by decide +kernel
theorem dr_cX17_findDepth_231 : decode cX17_findDepth 231 = .ok (.if_icmp .eq 28, 3) := by decide +kernel
theorem dr_cX17_findDepth_259 : decode cX17_findDepth 259 = .ok (.iconst 0, 1) := by decide +kernel
theorem dr_cX17_findDepth_234 : decode cX17_findDepth 234 = .ok (.lload 7, 2) := by decide +kernel
theorem dr_cX17_findDepth_236 : decode cX17_findDepth 236 = .ok (.aload_n 1, 1) := by decide +kernel
theorem dr_cX17_findDepth_237 : decode cX17_findDepth 237 = .ok (.iload 10, 2) := by decide +kernel
theorem dr_cX17_findDepth_239 : decode cX17_findDepth 239 = .ok (.invokevirtual 101, 3) := by decide +kernel
theorem dr_cX17_findDepth_242 : decode cX17_findDepth 242 = .ok (.iload 12, 2) := by decide +kernel
theorem dr_cX17_findDepth_244 : decode cX17_findDepth 244 = .ok (.invokevirtual 92, 3) := by decide +kernel
theorem dr_cX17_findDepth_247 : decode cX17_findDepth 247 = .ok (.lushr, 1) := by decide +kernel
theorem dr_cX17_findDepth_248 : decode cX17_findDepth 248 = .ok (.lconst 1, 1) := by decide +kernel
theorem dr_cX17_findDepth_249 : decode cX17_findDepth 249 = .ok (.land, 1) := by decide +kernel
theorem dr_cX17_findDepth_250 : decode cX17_findDepth 250 = .ok (.lconst 0, 1) := by decide +kernel
theorem dr_cX17_findDepth_251 : decode cX17_findDepth 251 = .ok (.lcmp, 1) := by decide +kernel
theorem dr_cX17_findDepth_252 : decode cX17_findDepth 252 = .ok (.ifCond .eq 7, 3) := by decide +kernel
theorem dr_cX17_findDepth_190 : decode cX17_findDepth 190 = .ok (.goto 98, 3) := by decide +kernel
theorem dr_cX17_findDepth_132 : decode cX17_findDepth 132 = .ok (.goto 201, 3) := by decide +kernel
theorem dr_cX17_findDepth_84 : decode cX17_findDepth 84 = .ok (.lload 5, 2) := by decide +kernel
theorem dr_cX17_findDepth_86 : decode cX17_findDepth 86 = .ok (.iload 9, 2) := by decide +kernel
theorem dr_cX17_findDepth_88 : decode cX17_findDepth 88 = .ok (.lushr, 1) := by decide +kernel
theorem dr_cX17_findDepth_89 : decode cX17_findDepth 89 = .ok (.lconst 1, 1) := by decide +kernel
theorem dr_cX17_findDepth_90 : decode cX17_findDepth 90 = .ok (.land, 1) := by decide +kernel
theorem dr_cX17_findDepth_91 : decode cX17_findDepth 91 = .ok (.lconst 0, 1) := by decide +kernel
theorem dr_cX17_findDepth_92 : decode cX17_findDepth 92 = .ok (.lcmp, 1) := by decide +kernel
theorem dr_cX17_findDepth_93 : decode cX17_findDepth 93 = .ok (.ifCond .eq 26, 3) := by decide +kernel
theorem dr_cX17_findDepth_119 : decode cX17_findDepth 119 = .ok (.iinc 9 1, 3) := by decide +kernel
theorem dr_cX17_findDepth_122 : decode cX17_findDepth 122 = .ok (.goto (-47), 3) := by decide +kernel
theorem dr_cX17_findDepth_96 : decode cX17_findDepth 96 = .ok (.aload_n 1, 1) := by decide +kernel
theorem dr_cX17_findDepth_97 : decode cX17_findDepth 97 = .ok (.iload 9, 2) := by decide +kernel
theorem dr_cX17_findDepth_99 : decode cX17_findDepth 99 = .ok (.invokevirtual 101, 3) := by decide +kernel
theorem dr_cX17_findDepth_102 : decode cX17_findDepth 102 = .ok (.iload 4, 2) := by decide +kernel
theorem dr_cX17_findDepth_104 : decode cX17_findDepth 104 = .ok (.invokestatic 160, 3) := by decide +kernel
theorem wr_11_44 : (Jvm.Cond.methodLink "SpillForgeModel" (160 : Nat) ({ cls := "SpillForgeModel", name := "leads", desc := "(LSpillForgeModel$Block;I)Z" } : Jvm.MethodName)) ∈ gw := gw_11 44 rfl rfl
theorem wr_11_46 : (Jvm.Cond.code ({ cls := "SpillForgeModel", name := "leads", desc := "(LSpillForgeModel$Block;I)Z" } : Jvm.MethodName) prog_14_method_13_code (3 : Nat) (Option.some Jvm.ClassFile.FieldType.boolean)) ∈ gw := gw_11 46 rfl rfl
theorem wr_11_45 : (Jvm.Cond.static ({ cls := "SpillForgeModel", name := "leads", desc := "(LSpillForgeModel$Block;I)Z" } : Jvm.MethodName)) ∈ gw := gw_11 45 rfl rfl
theorem dr_cX17_findDepth_107 : decode cX17_findDepth 107 = .ok (.ifCond .eq 12, 3) := by decide +kernel
theorem dr_cX17_findDepth_110 : decode cX17_findDepth 110 = .ok (.lload 7, 2) := by decide +kernel
theorem dr_cX17_findDepth_112 : decode cX17_findDepth 112 = .ok (.lconst 1, 1) := by decide +kernel
theorem dr_cX17_findDepth_113 : decode cX17_findDepth 113 = .ok (.iload 9, 2) := by decide +kernel
theorem dr_cX17_findDepth_115 : decode cX17_findDepth 115 = .ok (.lshl, 1) := by decide +kernel
theorem dr_cX17_findDepth_116 : decode cX17_findDepth 116 = .ok (.lor, 1) := by decide +kernel
theorem dr_cX17_findDepth_117 : decode cX17_findDepth 117 = .ok (.lstore 7, 2) := by decide +kernel
theorem dr_cX17_findDepth_52 : decode cX17_findDepth 52 = .ok (.goto 281, 3) := by decide +kernel
theorem dr_cX17_findDepth_10 : decode cX17_findDepth 10 = .ok (.aload_n 0, 1) := by decide +kernel
theorem dr_cX17_findDepth_11 : decode cX17_findDepth 11 = .ok (.getfield 152, 3) := by decide +kernel
theorem dr_cX17_findDepth_14 : decode cX17_findDepth 14 = .ok (.iload_n 2, 1) := by decide +kernel
theorem dr_cX17_findDepth_15 : decode cX17_findDepth 15 = .ok (.iconst 0, 1) := by decide +kernel
theorem dr_cX17_findDepth_16 : decode cX17_findDepth 16 = .ok (.iastore, 1) := by decide +kernel
theorem dr_cX17_findDepth_17 : decode cX17_findDepth 17 = .ok (.iinc 2 1, 3) := by decide +kernel
theorem dr_cX17_findDepth_20 : decode cX17_findDepth 20 = .ok (.goto (-18), 3) := by decide +kernel
abbrev ky_19448_SpillForgeModel_findDepth : gKey := (cX17_findDepth, 13, "SpillForgeModel", none, [], "findDepth", fun _ _ => True)
def pt_19448_SpillForgeModel_findDepth (D : va_G) (I : FieldType → ClassId) (γ el : Nat → Nat → Nat) (P19443 : List Nat) (F19444 : Nat → va_E) (q19445 : Nat) (q19446 : Nat) : Option Value → va_W → Nat → Nat → Prop := fun r w dc ds => ∃ (F159403 : Nat → va_E), r = none ∧ w = va_pl P19443 F159403 ∧ RS D I P19443 F159403 γ el ∧ rStr γ [] F19444 F159403 ∧ dc ≤ 0 ∧ ds ≤ 0
set_option maxRecDepth 100000 in
set_option maxHeartbeats 4000000 in
theorem ct_19448_SpillForgeModel_findDepth (l : Launch) (hl0 : l.stackTraces = false) (D : va_G) (I : FieldType → ClassId) (γ el : Nat → Nat → Nat) (P19443 : List Nat) (F19444 : Nat → va_E) (q19445 : Nat) (q19446 : Nat) (hT : RS D I P19443 F19444 γ el) (htq19445 : rKd γ q19445 10) (htq19446 : rKd γ q19446 9) (x19447 : 0 < γ 6 (γ 1 q19446)) : CtA (gV D I) l yX17_findDepth cX17_findDepth 13 none 5 112 0 0 [.ref q19445, .ref q19446] (va_pl P19443 F19444) (pt_19448_SpillForgeModel_findDepth D I γ el P19443 F19444 q19445 q19446) gNA := by
  refine CtA_of hl0 (by decide) (Nat.le_of_ble_eq_true rfl) ?_
  refine G_iconst 0 dr_cX17_findDepth_0 (by decide +kernel) ?_
  refine G_istore_n (L' := [(2, .int 0), (0, .ref q19445), (1, .ref q19446)]) dr_cX17_findDepth_1 (Nat.le_of_ble_eq_true rfl) rfl ?_
  have hlp2_153054 : ∀ (n2_153054 : Nat) (F153052 : Nat → va_E) (g153051 : Int32), gB g153051 0 1000000 → RS D I P19443 F153052 γ el → rStr γ [] F19444 F153052 → ((1000001 : Int) - g153051.toInt).toNat < n2_153054 → G (gV D I) l (gRm 5 112 0 0) (gMA (gV D I) (pt_19448_SpillForgeModel_findDepth D I γ el P19443 F19444 q19445 q19446) gNA 0 0) ky_19448_SpillForgeModel_findDepth 2 [(2, .int g153051), (0, .ref q19445), (1, .ref q19446)] [] (va_pl P19443 F153052) 0 0 := by
    intro n2_153054
    induction n2_153054 with
    | zero => intro F153052 g153051 bg153051 hT153053 hs153054 hm2_153054; exact absurd hm2_153054 (Nat.not_lt_zero _)
    | succ n2_153054 ih2_153054 =>
      intro F153052 g153051 bg153051 hT153053 hs153054 hm2_153054
      have hs153056 : rStr γ [] F19444 F153052 := fun b h0 hb hw => (hs153054 b h0 hb hw).trans ((rStr_rf (γ := γ) (W := []) (F := F19444)) b h0 hb hw).symm
      have hs153057 : rStr γ [] F19444 F153052 := rStr_tr (rStr_rf (γ := γ) (W := []) (F := F19444)) hs153056
      refine G_iload_n 0 dr_cX17_findDepth_2 rfl ?_
      refine G_aload_n 2 dr_cX17_findDepth_3 rfl ?_
      have hm153058 : q19446 ∈ P19443 := RS_m hT153053 htq19446 (by decide)
      obtain ⟨q153060, q153061, p153062, p153063, he153059, ht153079, ht153064, ht153065, ht153066, ht153067, r153068, r153069, r153070, r153071, r153072, r153073, r153074, r153075, r153076, r153077, r153078⟩ := show rk_9 γ el q19446 (F153052 q19446) from RS_o hT153053 htq19446
      have bp153062 : gB p153062 0 1000000 := ⟨by omega, by omega⟩
      have bp153063 : gB p153063 0 1000000 := ⟨by omega, by omega⟩
      refine Gw_callV (As := []) (gV_ok D I) (cp_12451_Code_size l hl0 D I P19443 F153052 q19446 q153060 q153061 p153062 p153063 hm153058 he153059) dr_cX17_findDepth_4 ⟨wr_10_160, wr_1_15, wr_9_131, by decide, rfl, (Nat.le_of_ble_eq_true rfl), (Nat.le_of_ble_eq_true rfl)⟩ wr_9_129 wr_9_130 hm153058 he153059 rfl (show 0 + 0 ≤ 0 by first | omega | decide) (show 0 + 0 ≤ 0 by first | omega | decide) (Nat.le_of_ble_eq_true rfl) (fun r153083 w153084 dc153080 ds153081 hp153082 => ?_) (fun _ _ _ _ _ z => z.elim)
      obtain ⟨rfl, rfl, hdc, hds⟩ := hp153082
      change G _ _ _ _ _ _ _ (.int p153063 :: _) _ _ _
      refine G_widen (cs' := 0) (sl' := 0) (by omega) (by omega) ?_
      refine G_icmp_ge 23 dr_cX17_findDepth_7 (by decide +kernel) (fun hc153085 => ?_) (fun hc153085 => ?_)
      · have r153086 : p153063.toInt ≤ g153051.toInt := gC_le hc153085
        refine G_aload_n 2 dr_cX17_findDepth_23 rfl ?_
        refine G_iconst (-1) dr_cX17_findDepth_24 (by decide +kernel) ?_
        refine Gw_callS (As := [.ref q19446, .int (-1)]) (gV_ok D I) (ct_12419_SpillForgeModel_reached l hl0 D I γ el P19443 F153052 q19446 (-1) hT153053 htq19446 (by omega)) dr_cX17_findDepth_25 ⟨wr_11_41, wr_1_14, wr_11_43, by decide, rfl, (Nat.le_of_ble_eq_true rfl), (Nat.le_of_ble_eq_true rfl)⟩ wr_11_42 (show 0 + 0 ≤ 0 by first | omega | decide) (show 0 + 0 ≤ 0 by first | omega | decide) (Nat.le_of_ble_eq_true rfl) (fun r153090 w153091 dc153087 ds153088 hp153089 => ?_) (fun _ _ _ _ _ z => z.elim)
        obtain ⟨ol153092, rfl, rfl, hdc, hds⟩ := hp153089
        change G _ _ _ _ _ _ _ (.long ol153092 :: _) _ _ _
        refine G_widen (cs' := 0) (sl' := 0) (by omega) (by omega) ?_
        refine G_lstore_n (L' := [(2, .long ol153092), (0, .ref q19445), (1, .ref q19446)]) dr_cX17_findDepth_28 (Nat.le_of_ble_eq_true rfl) rfl ?_
        refine G_iconst 0 dr_cX17_findDepth_29 (by decide +kernel) ?_
        refine G_istore (L' := [(4, .int 0), (2, .long ol153092), (0, .ref q19445), (1, .ref q19446)]) dr_cX17_findDepth_30 (Nat.le_of_ble_eq_true rfl) rfl ?_
        have hlp32_156220 : ∀ (n32_156220 : Nat) (F156218 : Nat → va_E) (g156217 : Int32), gB g156217 0 1000000 → RS D I P19443 F156218 γ el → rStr γ [] F19444 F156218 → ((1000001 : Int) - g156217.toInt).toNat < n32_156220 → G (gV D I) l (gRm 5 112 0 0) (gMA (gV D I) (pt_19448_SpillForgeModel_findDepth D I γ el P19443 F19444 q19445 q19446) gNA 0 0) ky_19448_SpillForgeModel_findDepth 32 [(4, .int g156217), (2, .long ol153092), (0, .ref q19445), (1, .ref q19446)] [] (va_pl P19443 F156218) 0 0 := by
          intro n32_156220
          induction n32_156220 with
          | zero => intro F156218 g156217 bg156217 hT156219 hs156220 hm32_156220; exact absurd hm32_156220 (Nat.not_lt_zero _)
          | succ n32_156220 ih32_156220 =>
            intro F156218 g156217 bg156217 hT156219 hs156220 hm32_156220
            have hs156222 : rStr γ [] F153052 F156218 := fun b h0 hb hw => (hs156220 b h0 hb hw).trans (hs153054 b h0 hb hw).symm
            have he156223 : F156218 q19446 = .inr (18, [.ref q153060, .ref q153061, .int p153062, .int p153063]) := (hs156222 q19446 (rT0 htq19446 (by decide)) (rT1 htq19446 (by decide)) (rT2 htq19446 (by decide))).trans he153059
            have hs156224 : rStr γ [] F19444 F156218 := rStr_tr hs153054 hs156222
            refine G_iload 0 dr_cX17_findDepth_32 rfl ?_
            refine G_aload_n 3 dr_cX17_findDepth_34 rfl ?_
            refine Gw_callV (As := []) (gV_ok D I) (cp_12451_Code_size l hl0 D I P19443 F156218 q19446 q153060 q153061 p153062 p153063 hm153058 he156223) dr_cX17_findDepth_35 ⟨wr_10_160, wr_1_15, wr_9_131, by decide, rfl, (Nat.le_of_ble_eq_true rfl), (Nat.le_of_ble_eq_true rfl)⟩ wr_9_129 wr_9_130 hm153058 he156223 rfl (show 0 + 0 ≤ 0 by first | omega | decide) (show 0 + 0 ≤ 0 by first | omega | decide) (Nat.le_of_ble_eq_true rfl) (fun r156228 w156229 dc156225 ds156226 hp156227 => ?_) (fun _ _ _ _ _ z => z.elim)
            obtain ⟨rfl, rfl, hdc, hds⟩ := hp156227
            change G _ _ _ _ _ _ _ (.int p153063 :: _) _ _ _
            refine G_widen (cs' := 0) (sl' := 0) (by omega) (by omega) ?_
            refine G_icmp_ge 339 dr_cX17_findDepth_38 (by decide +kernel) (fun hc156230 => ?_) (fun hc156230 => ?_)
            · have r156231 : p153063.toInt ≤ g156217.toInt := gC_le hc156230
              refine G_iconst 0 dr_cX17_findDepth_339 (by decide +kernel) ?_
              refine G_istore (L' := [(4, .int 0), (2, .long ol153092), (0, .ref q19445), (1, .ref q19446)]) dr_cX17_findDepth_340 (Nat.le_of_ble_eq_true rfl) rfl ?_
              have hlp342_156312 : ∀ (n342_156312 : Nat) (F156310 : Nat → va_E) (g156309 : Int32), gB g156309 0 1000000 → RS D I P19443 F156310 γ el → rStr γ [] F19444 F156310 → ((1000001 : Int) - g156309.toInt).toNat < n342_156312 → G (gV D I) l (gRm 5 112 0 0) (gMA (gV D I) (pt_19448_SpillForgeModel_findDepth D I γ el P19443 F19444 q19445 q19446) gNA 0 0) ky_19448_SpillForgeModel_findDepth 342 [(4, .int g156309), (2, .long ol153092), (0, .ref q19445), (1, .ref q19446)] [] (va_pl P19443 F156310) 0 0 := by
                intro n342_156312
                induction n342_156312 with
                | zero => intro F156310 g156309 bg156309 hT156311 hs156312 hm342_156312; exact absurd hm342_156312 (Nat.not_lt_zero _)
                | succ n342_156312 ih342_156312 =>
                  intro F156310 g156309 bg156309 hT156311 hs156312 hm342_156312
                  have hs156314 : rStr γ [] F156218 F156310 := fun b h0 hb hw => (hs156312 b h0 hb hw).trans (hs156220 b h0 hb hw).symm
                  have he156315 : F156310 q19446 = .inr (18, [.ref q153060, .ref q153061, .int p153062, .int p153063]) := (hs156314 q19446 (rT0 htq19446 (by decide)) (rT1 htq19446 (by decide)) (rT2 htq19446 (by decide))).trans he156223
                  have hs156316 : rStr γ [] F19444 F156310 := rStr_tr hs156220 hs156314
                  refine G_iload 0 dr_cX17_findDepth_342 rfl ?_
                  refine G_aload_n 3 dr_cX17_findDepth_344 rfl ?_
                  refine Gw_callV (As := []) (gV_ok D I) (cp_12451_Code_size l hl0 D I P19443 F156310 q19446 q153060 q153061 p153062 p153063 hm153058 he156315) dr_cX17_findDepth_345 ⟨wr_10_160, wr_1_15, wr_9_131, by decide, rfl, (Nat.le_of_ble_eq_true rfl), (Nat.le_of_ble_eq_true rfl)⟩ wr_9_129 wr_9_130 hm153058 he156315 rfl (show 0 + 0 ≤ 0 by first | omega | decide) (show 0 + 0 ≤ 0 by first | omega | decide) (Nat.le_of_ble_eq_true rfl) (fun r156320 w156321 dc156317 ds156318 hp156319 => ?_) (fun _ _ _ _ _ z => z.elim)
                  obtain ⟨rfl, rfl, hdc, hds⟩ := hp156319
                  change G _ _ _ _ _ _ _ (.int p153063 :: _) _ _ _
                  refine G_widen (cs' := 0) (sl' := 0) (by omega) (by omega) ?_
                  refine G_icmp_ge 375 dr_cX17_findDepth_348 (by decide +kernel) (fun hc156322 => ?_) (fun hc156322 => ?_)
                  · have r156323 : p153063.toInt ≤ g156309.toInt := gC_le hc156322
                    exact G_vretA dr_cX17_findDepth_375 rfl (Nat.le_of_ble_eq_true rfl) (Nat.le_of_ble_eq_true rfl) ⟨F156310, rfl, rfl, hT156311, hs156312, (Nat.le_of_ble_eq_true rfl), (Nat.le_of_ble_eq_true rfl)⟩
                  · have r156324 : g156309.toInt < p153063.toInt := gC_nle hc156322
                    have bg156309' : gB g156309 0 999999 := ⟨by omega, by omega⟩
                    have bp153063' : gB p153063 1 1000000 := ⟨by omega, by omega⟩
                    refine G_aload_n 2 dr_cX17_findDepth_351 rfl ?_
                    have hm156325 : q19445 ∈ P19443 := RS_m hT156311 htq19445 (by decide)
                    obtain ⟨q156327, q156328, p156329, p156330, p156331, p156332, p156333, p156334, p156335, p156336, p156337, p156338, p156339, p156340, p156341, p156342, p156343, he156326, hB156370, ht156344, ht156345, ht156346, ht156347, ht156348, ht156349, ht156350, ht156351, ht156352, ht156353, ht156354, ht156355, ht156356, ht156357, ht156358, ht156359, ht156360, ht156361, ht156362, ht156363, ht156364, ht156365, ht156366, ht156367, hB156371⟩ := show rk_10 γ (F156310 q19445) from RS_o hT156311 htq19445
                    refine Gp_get 4 hm156325 he156326 dr_cX17_findDepth_352 (gk_X17 D I) (Nat.le_of_ble_eq_true rfl) wr_7_78 rfl ?_
                    refine G_iload 0 dr_cX17_findDepth_355 rfl ?_
                    refine G_aload_n 2 dr_cX17_findDepth_357 rfl ?_
                    refine Gp_get 4 hm156325 he156326 dr_cX17_findDepth_358 (gk_X17 D I) (Nat.le_of_ble_eq_true rfl) wr_7_78 rfl ?_
                    refine G_iload 0 dr_cX17_findDepth_361 rfl ?_
                    have hm156372 : (γ 9 4) ∈ P19443 := RS_m hT156311 ht156350 (by decide)
                    obtain ⟨f156374, he156373⟩ := show rk_16 I (F156310 (γ 9 4)) from RS_o hT156311 ht156350
                    refine Gp_iald 0 hm156372 he156373 dr_cX17_findDepth_363 rfl (gB_inr (by omega) (by omega)) (G_nam fun z156375 hz156375 => ?_)
                    have bz156375 : gB z156375 (-2147483648) 2147483647 := gB_any z156375
                    refine G_iconst 4 dr_cX17_findDepth_364 (by decide +kernel) ?_
                    refine G_mmin dr_cX17_findDepth_365 wr_11_20 wr_3_227 wr_1_6 wr_3_228 (Nat.le_of_ble_eq_true rfl) (Nat.le_of_ble_eq_true rfl) (show 0 ≤ 0 by first | omega | decide) (show 0 ≤ 0 by first | omega | decide) (G_nam fun z156376 hz156376 => ?_)
                    have ez156376 : z156375.toInt ≥ z156376.toInt ∧ 4 ≥ z156376.toInt ∧ (z156376.toInt = z156375.toInt ∨ z156376.toInt = 4) := by have := gI_min hz156376; rw [show Int32.toInt 4 = 4 from by decide] at this; omega
                    have bz156376 : gB z156376 (-2147483648) 4 := ⟨by omega, by omega⟩
                    refine Gp_iast 0 hm156372 he156373 dr_cX17_findDepth_368 rfl (gB_inr (by omega) (by omega)) (fun F156377 e156378 n156379 => ?_)
                    obtain ⟨f156380, hf156380⟩ : ∃ z, z = upd f156374 g156309.toNatClampNeg z156376 := ⟨_, rfl⟩
                    rw [← hf156380] at e156378
                    have he156381 : F156377 q19446 = .inr (18, [.ref q153060, .ref q153061, .int p153062, .int p153063]) := (n156379 q19446 (rn_oa he156315 he156373)).trans he156315
                    have he156382 : F156377 q19445 = .inr (22, [.ref (γ 9 0), .ref (γ 9 1), .ref (γ 9 2), .ref (γ 9 3), .ref (γ 9 4), .ref (γ 9 5), .ref (γ 9 6), .ref (γ 9 7), .ref (γ 9 8), .int p156329, .int p156330, .int p156331, .int p156332, .int p156333, .int p156334, .ref (γ 9 15), .ref (γ 9 16), .ref (γ 9 17), .ref (γ 9 18), .ref (γ 9 19), .ref (γ 9 20), .ref (γ 9 21), .ref (γ 9 22), .int p156335, .int p156336, .int p156337, .int p156338, .int p156339, .ref q156327, .ref (γ 9 29), .int p156340, .ref (γ 9 31), .int p156341, .int p156342, .int p156343, .ref q156328]) := (n156379 q19445 (rn_oa he156326 he156373)).trans he156326
                    have he156383 : F156377 (γ 9 4) = .inl (I .int, 40, .inl f156380) := e156378
                    have hs156384 : rStr γ [] F19444 F156377 := rStr_put hs156312 n156379 ht156350 (by decide)
                    obtain ⟨z156385, hz156385⟩ : ∃ z : Int32, z = g156309 + Int32.ofInt 1 := ⟨_, rfl⟩
                    have ez156385 : z156385.toInt = g156309.toInt + 1 := gI_inc hz156385 (by decide) bg156309' (by decide) (by decide)
                    have bz156385 : gB z156385 1 1000000 := ⟨by omega, by omega⟩
                    refine G_iinc (L' := [(4, .int z156385), (2, .long ol153092), (0, .ref q19445), (1, .ref q19446)]) z156385 0 dr_cX17_findDepth_369 rfl hz156385.symm (Nat.le_of_ble_eq_true rfl) rfl ?_
                    refine G_goto 342 dr_cX17_findDepth_372 (by decide +kernel) ?_
                    have hT156386 : RS D I P19443 F156377 γ el := RS_set hT156311 n156379 ht156350 (by decide) ⟨f156380, he156383⟩
                    exact ih342_156312 F156377 z156385 (gB_w bz156385 (by decide) (by decide)) hT156386 hs156384 (by omega)
              exact hlp342_156312 (((1000001 : Int) - 0).toNat + 1) F156218 0 (gB_w (gBl (show Int32.toInt 0 = 0 by decide)) (by decide) (by decide)) hT156219 hs156220 (Nat.lt_succ_self _)
            · have r156387 : g156217.toInt < p153063.toInt := gC_nle hc156230
              have bg156217' : gB g156217 0 999999 := ⟨by omega, by omega⟩
              have bp153063' : gB p153063 1 1000000 := ⟨by omega, by omega⟩
              refine G_lload_n 1 dr_cX17_findDepth_41 rfl ?_
              refine G_iload 0 dr_cX17_findDepth_42 rfl ?_
              refine G_lushr dr_cX17_findDepth_44 (G_namL fun u156388 hu156388 => ?_)
              refine G_lconst 1 dr_cX17_findDepth_45 rfl ?_
              refine G_land dr_cX17_findDepth_46 (G_namL fun u156389 hu156389 => ?_)
              refine G_lconst 0 dr_cX17_findDepth_47 rfl ?_
              refine G_lcmp dr_cX17_findDepth_48 (G_nam fun z156390 hz156390 => ?_)
              have bz156390 : gB z156390 (-1) 1 := gB_cmp hz156390
              refine G_if_ne 55 dr_cX17_findDepth_49 (by decide +kernel) (fun hc156391 => ?_) (fun hc156391 => ?_)
              · have r156392 : z156390.toInt ≠ 0 := gj_neq hc156391 (show Int32.toInt 0 = 0 by decide)
                have lhc156391 := gC_cmpN hz156390 hc156391
                refine G_lload_n 1 dr_cX17_findDepth_55 rfl ?_
                refine G_aload_n 3 dr_cX17_findDepth_56 rfl ?_
                refine G_iload 0 dr_cX17_findDepth_57 rfl ?_
                refine Gw_callS (As := [.ref q19446, .int g156217]) (gV_ok D I) (ct_12419_SpillForgeModel_reached l hl0 D I γ el P19443 F156218 q19446 g156217 hT156219 htq19446 (by omega)) dr_cX17_findDepth_59 ⟨wr_11_41, wr_1_14, wr_11_43, by decide, rfl, (Nat.le_of_ble_eq_true rfl), (Nat.le_of_ble_eq_true rfl)⟩ wr_11_42 (show 0 + 0 ≤ 0 by first | omega | decide) (show 0 + 0 ≤ 0 by first | omega | decide) (Nat.le_of_ble_eq_true rfl) (fun r156396 w156397 dc156393 ds156394 hp156395 => ?_) (fun _ _ _ _ _ z => z.elim)
                obtain ⟨ol156398, rfl, rfl, hdc, hds⟩ := hp156395
                change G _ _ _ _ _ _ _ (.long ol156398 :: _) _ _ _
                refine G_widen (cs' := 0) (sl' := 0) (by omega) (by omega) ?_
                refine G_ldc2 (-1) dr_cX17_findDepth_62 wr_10_188 ?_
                refine G_lxor dr_cX17_findDepth_65 (G_namL fun u156399 hu156399 => ?_)
                refine G_land dr_cX17_findDepth_66 (G_namL fun u156400 hu156400 => ?_)
                refine G_lstore (L' := [(5, .long u156400), (4, .int g156217), (2, .long ol153092), (0, .ref q19445), (1, .ref q19446)]) dr_cX17_findDepth_67 (Nat.le_of_ble_eq_true rfl) rfl ?_
                refine G_lconst 0 dr_cX17_findDepth_69 rfl ?_
                refine G_lstore (L' := [(7, .long 0), (5, .long u156400), (4, .int g156217), (2, .long ol153092), (0, .ref q19445), (1, .ref q19446)]) dr_cX17_findDepth_70 (Nat.le_of_ble_eq_true rfl) rfl ?_
                refine G_iconst 0 dr_cX17_findDepth_72 (by decide +kernel) ?_
                refine G_istore (L' := [(9, .int 0), (7, .long 0), (5, .long u156400), (4, .int g156217), (2, .long ol153092), (0, .ref q19445), (1, .ref q19446)]) dr_cX17_findDepth_73 (Nat.le_of_ble_eq_true rfl) rfl ?_
                have hlp75_157871 : ∀ (n75_157871 : Nat) (g157870 : Int32) (gl157871 : Int64), gB g157870 0 1000000 → ((1000001 : Int) - g157870.toInt).toNat < n75_157871 → G (gV D I) l (gRm 5 112 0 0) (gMA (gV D I) (pt_19448_SpillForgeModel_findDepth D I γ el P19443 F19444 q19445 q19446) gNA 0 0) ky_19448_SpillForgeModel_findDepth 75 [(9, .int g157870), (7, .long gl157871), (5, .long u156400), (4, .int g156217), (2, .long ol153092), (0, .ref q19445), (1, .ref q19446)] [] (va_pl P19443 F156218) 0 0 := by
                  intro n75_157871
                  induction n75_157871 with
                  | zero => intro g157870 gl157871 bg157870 hm75_157871; exact absurd hm75_157871 (Nat.not_lt_zero _)
                  | succ n75_157871 ih75_157871 =>
                    intro g157870 gl157871 bg157870 hm75_157871
                    refine G_iload 0 dr_cX17_findDepth_75 rfl ?_
                    refine G_aload_n 6 dr_cX17_findDepth_77 rfl ?_
                    refine Gw_callV (As := []) (gV_ok D I) (cp_12451_Code_size l hl0 D I P19443 F156218 q19446 q153060 q153061 p153062 p153063 hm153058 he156223) dr_cX17_findDepth_78 ⟨wr_10_160, wr_1_15, wr_9_131, by decide, rfl, (Nat.le_of_ble_eq_true rfl), (Nat.le_of_ble_eq_true rfl)⟩ wr_9_129 wr_9_130 hm153058 he156223 rfl (show 0 + 0 ≤ 0 by first | omega | decide) (show 0 + 0 ≤ 0 by first | omega | decide) (Nat.le_of_ble_eq_true rfl) (fun r157876 w157877 dc157873 ds157874 hp157875 => ?_) (fun _ _ _ _ _ z => z.elim)
                    obtain ⟨rfl, rfl, hdc, hds⟩ := hp157875
                    change G _ _ _ _ _ _ _ (.int p153063 :: _) _ _ _
                    refine G_widen (cs' := 0) (sl' := 0) (by omega) (by omega) ?_
                    refine G_icmp_ge 125 dr_cX17_findDepth_81 (by decide +kernel) (fun hc157878 => ?_) (fun hc157878 => ?_)
                    · have r157879 : p153063.toInt ≤ g157870.toInt := gC_le hc157878
                      have bg157870' : gB g157870 1 1000000 := ⟨by omega, by omega⟩
                      refine G_lload 1 dr_cX17_findDepth_125 rfl ?_
                      refine G_lconst 0 dr_cX17_findDepth_127 rfl ?_
                      refine G_lcmp dr_cX17_findDepth_128 (G_nam fun z157880 hz157880 => ?_)
                      have bz157880 : gB z157880 (-1) 1 := gB_cmp hz157880
                      refine G_if_ne 135 dr_cX17_findDepth_129 (by decide +kernel) (fun hc157881 => ?_) (fun hc157881 => ?_)
                      · have r157882 : z157880.toInt ≠ 0 := gj_neq hc157881 (show Int32.toInt 0 = 0 by decide)
                        have lhc157881 := gC_cmpN hz157880 hc157881
                        refine G_lload 1 dr_cX17_findDepth_135 rfl ?_
                        refine G_lconst 1 dr_cX17_findDepth_137 rfl ?_
                        refine G_iload 3 dr_cX17_findDepth_138 rfl ?_
                        refine G_lshl dr_cX17_findDepth_140 (G_namL fun u157883 hu157883 => ?_)
                        have qu157883 : lb_Q u157883 (g156217.toInt % 64 + 1) := lb_Qshl hu157883 (by omega)
                        refine G_lor dr_cX17_findDepth_141 (G_namL fun u157884 hu157884 => ?_)
                        have pmu157884 : rpop gl157871 ≤ rpop u157884 := rpop_or hu157884
                        refine G_lstore (L' := [(7, .long u157884), (9, .int g157870), (5, .long u156400), (4, .int g156217), (2, .long ol153092), (0, .ref q19445), (1, .ref q19446)]) dr_cX17_findDepth_142 (Nat.le_of_ble_eq_true rfl) rfl ?_
                        refine G_iconst 1 dr_cX17_findDepth_144 (by decide +kernel) ?_
                        refine G_istore (L' := [(9, .int 1), (7, .long u157884), (5, .long u156400), (4, .int g156217), (2, .long ol153092), (0, .ref q19445), (1, .ref q19446)]) dr_cX17_findDepth_145 (Nat.le_of_ble_eq_true rfl) rfl ?_
                        have hlp147_158578 : ∀ (n147_158578 : Nat) (g158576 : Int32) (gl158577 : Int64), gB g158576 0 1 → rpop gl158577 ≤ 64 → (64 - rpop gl158577) + ((g158576.toInt : Int)).toNat < n147_158578 → G (gV D I) l (gRm 5 112 0 0) (gMA (gV D I) (pt_19448_SpillForgeModel_findDepth D I γ el P19443 F19444 q19445 q19446) gNA 0 0) ky_19448_SpillForgeModel_findDepth 147 [(9, .int g158576), (7, .long gl158577), (5, .long u156400), (4, .int g156217), (2, .long ol153092), (0, .ref q19445), (1, .ref q19446)] [] (va_pl P19443 F156218) 0 0 := by
                          intro n147_158578
                          induction n147_158578 with
                          | zero => intro g158576 gl158577 bg158576 x158578 hm147_158578; exact absurd hm147_158578 (Nat.not_lt_zero _)
                          | succ n147_158578 ih147_158578 =>
                            intro g158576 gl158577 bg158576 x158578 hm147_158578
                            refine G_iload 0 dr_cX17_findDepth_147 rfl ?_
                            refine G_if_eq 297 dr_cX17_findDepth_149 (by decide +kernel) (fun hc158580 => ?_) (fun hc158580 => ?_)
                            · have r158581 : g158576.toInt = 0 := gj_eq hc158580 (show Int32.toInt 0 = 0 by decide)
                              have bg158576' : gB g158576 0 0 := ⟨by omega, by omega⟩
                              refine G_iconst 0 dr_cX17_findDepth_297 (by decide +kernel) ?_
                              refine G_istore (L' := [(10, .int 0), (9, .int g158576), (7, .long gl158577), (5, .long u156400), (4, .int g156217), (2, .long ol153092), (0, .ref q19445), (1, .ref q19446)]) dr_cX17_findDepth_298 (Nat.le_of_ble_eq_true rfl) rfl ?_
                              have hlp300_158666 : ∀ (n300_158666 : Nat) (F158664 : Nat → va_E) (g158663 : Int32), gB g158663 0 1000000 → RS D I P19443 F158664 γ el → rStr γ [] F19444 F158664 → ((1000001 : Int) - g158663.toInt).toNat < n300_158666 → G (gV D I) l (gRm 5 112 0 0) (gMA (gV D I) (pt_19448_SpillForgeModel_findDepth D I γ el P19443 F19444 q19445 q19446) gNA 0 0) ky_19448_SpillForgeModel_findDepth 300 [(10, .int g158663), (9, .int g158576), (7, .long gl158577), (5, .long u156400), (4, .int g156217), (2, .long ol153092), (0, .ref q19445), (1, .ref q19446)] [] (va_pl P19443 F158664) 0 0 := by
                                intro n300_158666
                                induction n300_158666 with
                                | zero => intro F158664 g158663 bg158663 hT158665 hs158666 hm300_158666; exact absurd hm300_158666 (Nat.not_lt_zero _)
                                | succ n300_158666 ih300_158666 =>
                                  intro F158664 g158663 bg158663 hT158665 hs158666 hm300_158666
                                  have hs158668 : rStr γ [] F156218 F158664 := fun b h0 hb hw => (hs158666 b h0 hb hw).trans (hs156220 b h0 hb hw).symm
                                  have he158669 : F158664 q19446 = .inr (18, [.ref q153060, .ref q153061, .int p153062, .int p153063]) := (hs158668 q19446 (rT0 htq19446 (by decide)) (rT1 htq19446 (by decide)) (rT2 htq19446 (by decide))).trans he156223
                                  have hs158670 : rStr γ [] F19444 F158664 := rStr_tr hs156220 hs158668
                                  refine G_iload 0 dr_cX17_findDepth_300 rfl ?_
                                  refine G_aload_n 7 dr_cX17_findDepth_302 rfl ?_
                                  refine Gw_callV (As := []) (gV_ok D I) (cp_12451_Code_size l hl0 D I P19443 F158664 q19446 q153060 q153061 p153062 p153063 hm153058 he158669) dr_cX17_findDepth_303 ⟨wr_10_160, wr_1_15, wr_9_131, by decide, rfl, (Nat.le_of_ble_eq_true rfl), (Nat.le_of_ble_eq_true rfl)⟩ wr_9_129 wr_9_130 hm153058 he158669 rfl (show 0 + 0 ≤ 0 by first | omega | decide) (show 0 + 0 ≤ 0 by first | omega | decide) (Nat.le_of_ble_eq_true rfl) (fun r158674 w158675 dc158671 ds158672 hp158673 => ?_) (fun _ _ _ _ _ z => z.elim)
                                  obtain ⟨rfl, rfl, hdc, hds⟩ := hp158673
                                  change G _ _ _ _ _ _ _ (.int p153063 :: _) _ _ _
                                  refine G_widen (cs' := 0) (sl' := 0) (by omega) (by omega) ?_
                                  refine G_icmp_ge 333 dr_cX17_findDepth_306 (by decide +kernel) (fun hc158676 => ?_) (fun hc158676 => ?_)
                                  · have r158677 : p153063.toInt ≤ g158663.toInt := gC_le hc158676
                                    have bg158663' : gB g158663 1 1000000 := ⟨by omega, by omega⟩
                                    obtain ⟨z158678, hz158678⟩ : ∃ z : Int32, z = g156217 + Int32.ofInt 1 := ⟨_, rfl⟩
                                    have ez158678 : z158678.toInt = g156217.toInt + 1 := gI_inc hz158678 (by decide) bg156217' (by decide) (by decide)
                                    have bz158678 : gB z158678 1 1000000 := ⟨by omega, by omega⟩
                                    refine G_iinc (L' := [(4, .int z158678), (10, .int g158663), (9, .int g158576), (7, .long gl158577), (5, .long u156400), (2, .long ol153092), (0, .ref q19445), (1, .ref q19446)]) z158678 4 dr_cX17_findDepth_333 rfl hz158678.symm (Nat.le_of_ble_eq_true rfl) rfl ?_
                                    refine G_goto 32 dr_cX17_findDepth_336 (by decide +kernel) ?_
                                    refine G_lv (L' := [(4, .int z158678), (2, .long ol153092), (0, .ref q19445), (1, .ref q19446)]) [0, 5, 6, 7] rfl ?_
                                    exact ih32_156220 F158664 z158678 (gB_w bz158678 (by decide) (by decide)) hT158665 hs158666 (by omega)
                                  · have r158679 : g158663.toInt < p153063.toInt := gC_nle hc158676
                                    have bg158663' : gB g158663 0 999999 := ⟨by omega, by omega⟩
                                    refine G_aload_n 6 dr_cX17_findDepth_309 rfl ?_
                                    have hm158680 : q19445 ∈ P19443 := RS_m hT158665 htq19445 (by decide)
                                    obtain ⟨q158682, q158683, p158684, p158685, p158686, p158687, p158688, p158689, p158690, p158691, p158692, p158693, p158694, p158695, p158696, p158697, p158698, he158681, hB158725, ht158699, ht158700, ht158701, ht158702, ht158703, ht158704, ht158705, ht158706, ht158707, ht158708, ht158709, ht158710, ht158711, ht158712, ht158713, ht158714, ht158715, ht158716, ht158717, ht158718, ht158719, ht158720, ht158721, ht158722, hB158726⟩ := show rk_10 γ (F158664 q19445) from RS_o hT158665 htq19445
                                    refine Gp_get 4 hm158680 he158681 dr_cX17_findDepth_310 (gk_X17 D I) (Nat.le_of_ble_eq_true rfl) wr_7_78 rfl ?_
                                    refine G_iload 0 dr_cX17_findDepth_313 rfl ?_
                                    refine G_dup2_11 dr_cX17_findDepth_315 rfl rfl ?_
                                    have hm158727 : (γ 9 4) ∈ P19443 := RS_m hT158665 ht158705 (by decide)
                                    obtain ⟨f158729, he158728⟩ := show rk_16 I (F158664 (γ 9 4)) from RS_o hT158665 ht158705
                                    refine Gp_iald 0 hm158727 he158728 dr_cX17_findDepth_316 rfl (gB_inr (by omega) (by omega)) (G_nam fun z158730 hz158730 => ?_)
                                    have bz158730 : gB z158730 (-2147483648) 2147483647 := gB_any z158730
                                    refine G_lload 2 dr_cX17_findDepth_317 rfl ?_
                                    refine G_iload 0 dr_cX17_findDepth_319 rfl ?_
                                    refine G_lushr dr_cX17_findDepth_321 (G_namL fun u158731 hu158731 => ?_)
                                    refine G_lconst 1 dr_cX17_findDepth_322 rfl ?_
                                    refine G_land dr_cX17_findDepth_323 (G_namL fun u158732 hu158732 => ?_)
                                    refine G_l2i dr_cX17_findDepth_324 (G_nam fun z158733 hz158733 => ?_)
                                    have bz158733 : gB z158733 (-2147483648) 2147483647 := gB_any z158733
                                    refine G_iadd dr_cX17_findDepth_325 (G_nam fun z158734 hz158734 => ?_)
                                    have bz158734 : gB z158734 (-2147483648) 2147483647 := gB_any z158734
                                    refine Gp_iast 0 hm158727 he158728 dr_cX17_findDepth_326 rfl (gB_inr (by omega) (by omega)) (fun F158735 e158736 n158737 => ?_)
                                    obtain ⟨f158738, hf158738⟩ : ∃ z, z = upd f158729 g158663.toNatClampNeg z158734 := ⟨_, rfl⟩
                                    rw [← hf158738] at e158736
                                    have he158739 : F158735 q19446 = .inr (18, [.ref q153060, .ref q153061, .int p153062, .int p153063]) := (n158737 q19446 (rn_oa he158669 he158728)).trans he158669
                                    have he158740 : F158735 q19445 = .inr (22, [.ref (γ 9 0), .ref (γ 9 1), .ref (γ 9 2), .ref (γ 9 3), .ref (γ 9 4), .ref (γ 9 5), .ref (γ 9 6), .ref (γ 9 7), .ref (γ 9 8), .int p158684, .int p158685, .int p158686, .int p158687, .int p158688, .int p158689, .ref (γ 9 15), .ref (γ 9 16), .ref (γ 9 17), .ref (γ 9 18), .ref (γ 9 19), .ref (γ 9 20), .ref (γ 9 21), .ref (γ 9 22), .int p158690, .int p158691, .int p158692, .int p158693, .int p158694, .ref q158682, .ref (γ 9 29), .int p158695, .ref (γ 9 31), .int p158696, .int p158697, .int p158698, .ref q158683]) := (n158737 q19445 (rn_oa he158681 he158728)).trans he158681
                                    have he158741 : F158735 (γ 9 4) = .inl (I .int, 40, .inl f158738) := e158736
                                    have hs158742 : rStr γ [] F19444 F158735 := rStr_put hs158666 n158737 ht158705 (by decide)
                                    obtain ⟨z158743, hz158743⟩ : ∃ z : Int32, z = g158663 + Int32.ofInt 1 := ⟨_, rfl⟩
                                    have ez158743 : z158743.toInt = g158663.toInt + 1 := gI_inc hz158743 (by decide) bg158663' (by decide) (by decide)
                                    have bz158743 : gB z158743 1 1000000 := ⟨by omega, by omega⟩
                                    refine G_iinc (L' := [(10, .int z158743), (9, .int g158576), (7, .long gl158577), (5, .long u156400), (4, .int g156217), (2, .long ol153092), (0, .ref q19445), (1, .ref q19446)]) z158743 0 dr_cX17_findDepth_327 rfl hz158743.symm (Nat.le_of_ble_eq_true rfl) rfl ?_
                                    refine G_goto 300 dr_cX17_findDepth_330 (by decide +kernel) ?_
                                    have hT158744 : RS D I P19443 F158735 γ el := RS_set hT158665 n158737 ht158705 (by decide) ⟨f158738, he158741⟩
                                    exact ih300_158666 F158735 z158743 (gB_w bz158743 (by decide) (by decide)) hT158744 hs158742 (by omega)
                              exact hlp300_158666 (((1000001 : Int) - 0).toNat + 1) F156218 0 (gB_w (gBl (show Int32.toInt 0 = 0 by decide)) (by decide) (by decide)) hT156219 hs156220 (Nat.lt_succ_self _)
                            · have r158745 : g158576.toInt ≠ 0 := gj_neq hc158580 (show Int32.toInt 0 = 0 by decide)
                              have bg158576' : gB g158576 1 1 := ⟨by omega, by omega⟩
                              refine G_iconst 0 dr_cX17_findDepth_152 (by decide +kernel) ?_
                              refine G_istore (L' := [(9, .int 0), (7, .long gl158577), (5, .long u156400), (4, .int g156217), (2, .long ol153092), (0, .ref q19445), (1, .ref q19446)]) dr_cX17_findDepth_153 (Nat.le_of_ble_eq_true rfl) rfl ?_
                              refine G_iconst 0 dr_cX17_findDepth_155 (by decide +kernel) ?_
                              refine G_istore (L' := [(10, .int 0), (9, .int 0), (7, .long gl158577), (5, .long u156400), (4, .int g156217), (2, .long ol153092), (0, .ref q19445), (1, .ref q19446)]) dr_cX17_findDepth_156 (Nat.le_of_ble_eq_true rfl) rfl ?_
                              have hlp158_159010 : ∀ (n158_159010 : Nat) (g159006 : Int32) (g159007 : Int32) (gl159008 : Int64), gB g159006 0 1000000 → gB g159007 0 1 → rpop gl159008 ≤ 64 → rpop gl158577 + ((g159007.toInt : Int)).toNat ≤ rpop gl159008 → ((1000001 : Int) - g159006.toInt).toNat < n158_159010 → G (gV D I) l (gRm 5 112 0 0) (gMA (gV D I) (pt_19448_SpillForgeModel_findDepth D I γ el P19443 F19444 q19445 q19446) gNA 0 0) ky_19448_SpillForgeModel_findDepth 158 [(10, .int g159006), (9, .int g159007), (7, .long gl159008), (5, .long u156400), (4, .int g156217), (2, .long ol153092), (0, .ref q19445), (1, .ref q19446)] [] (va_pl P19443 F156218) 0 0 := by
                                intro n158_159010
                                induction n158_159010 with
                                | zero => intro g159006 g159007 gl159008 bg159006 bg159007 x159009 x159010 hm158_159010; exact absurd hm158_159010 (Nat.not_lt_zero _)
                                | succ n158_159010 ih158_159010 =>
                                  intro g159006 g159007 gl159008 bg159006 bg159007 x159009 x159010 hm158_159010
                                  refine G_iload 0 dr_cX17_findDepth_158 rfl ?_
                                  refine G_aload_n 7 dr_cX17_findDepth_160 rfl ?_
                                  refine Gw_callV (As := []) (gV_ok D I) (cp_12451_Code_size l hl0 D I P19443 F156218 q19446 q153060 q153061 p153062 p153063 hm153058 he156223) dr_cX17_findDepth_161 ⟨wr_10_160, wr_1_15, wr_9_131, by decide, rfl, (Nat.le_of_ble_eq_true rfl), (Nat.le_of_ble_eq_true rfl)⟩ wr_9_129 wr_9_130 hm153058 he156223 rfl (show 0 + 0 ≤ 0 by first | omega | decide) (show 0 + 0 ≤ 0 by first | omega | decide) (Nat.le_of_ble_eq_true rfl) (fun r159015 w159016 dc159012 ds159013 hp159014 => ?_) (fun _ _ _ _ _ z => z.elim)
                                  obtain ⟨rfl, rfl, hdc, hds⟩ := hp159014
                                  change G _ _ _ _ _ _ _ (.int p153063 :: _) _ _ _
                                  refine G_widen (cs' := 0) (sl' := 0) (by omega) (by omega) ?_
                                  refine G_icmp_ge 294 dr_cX17_findDepth_164 (by decide +kernel) (fun hc159017 => ?_) (fun hc159017 => ?_)
                                  · have r159018 : p153063.toInt ≤ g159006.toInt := gC_le hc159017
                                    have bg159006' : gB g159006 1 1000000 := ⟨by omega, by omega⟩
                                    refine G_goto 147 dr_cX17_findDepth_294 (by decide +kernel) ?_
                                    refine G_lv (L' := [(9, .int g159007), (7, .long gl159008), (5, .long u156400), (4, .int g156217), (2, .long ol153092), (0, .ref q19445), (1, .ref q19446)]) [1, 2, 3, 4, 5, 6, 7] rfl ?_
                                    exact ih147_158578 g159007 gl159008 bg159007 (rpop_le gl159008) (by omega)
                                  · have r159019 : g159006.toInt < p153063.toInt := gC_nle hc159017
                                    have bg159006' : gB g159006 0 999999 := ⟨by omega, by omega⟩
                                    refine G_lload 2 dr_cX17_findDepth_167 rfl ?_
                                    refine G_iload 0 dr_cX17_findDepth_169 rfl ?_
                                    refine G_lushr dr_cX17_findDepth_171 (G_namL fun u159020 hu159020 => ?_)
                                    refine G_lconst 1 dr_cX17_findDepth_172 rfl ?_
                                    refine G_land dr_cX17_findDepth_173 (G_namL fun u159021 hu159021 => ?_)
                                    refine G_lconst 0 dr_cX17_findDepth_174 rfl ?_
                                    refine G_lcmp dr_cX17_findDepth_175 (G_nam fun z159022 hz159022 => ?_)
                                    have bz159022 : gB z159022 (-1) 1 := gB_cmp hz159022
                                    refine G_if_ne 288 dr_cX17_findDepth_176 (by decide +kernel) (fun hc159023 => ?_) (fun hc159023 => ?_)
                                    · have r159024 : z159022.toInt ≠ 0 := gj_neq hc159023 (show Int32.toInt 0 = 0 by decide)
                                      have lhc159023 := gC_cmpN hz159022 hc159023
                                      obtain ⟨z159025, hz159025⟩ : ∃ z : Int32, z = g159006 + Int32.ofInt 1 := ⟨_, rfl⟩
                                      have ez159025 : z159025.toInt = g159006.toInt + 1 := gI_inc hz159025 (by decide) bg159006' (by decide) (by decide)
                                      have bz159025 : gB z159025 1 1000000 := ⟨by omega, by omega⟩
                                      refine G_iinc (L' := [(10, .int z159025), (9, .int g159007), (7, .long gl159008), (5, .long u156400), (4, .int g156217), (2, .long ol153092), (0, .ref q19445), (1, .ref q19446)]) z159025 0 dr_cX17_findDepth_288 rfl hz159025.symm (Nat.le_of_ble_eq_true rfl) rfl ?_
                                      refine G_goto 158 dr_cX17_findDepth_291 (by decide +kernel) ?_
                                      exact ih158_159010 z159025 g159007 gl159008 (gB_w bz159025 (by decide) (by decide)) bg159007 (rpop_le gl159008) (by omega) (by omega)
                                    · have r159026 : z159022.toInt = 0 := gj_eq hc159023 (show Int32.toInt 0 = 0 by decide)
                                      have bz159022' : gB z159022 0 0 := ⟨by omega, by omega⟩
                                      have lhc159023 := gC_cmpE hz159022 hc159023
                                      have zhc159023 := rbit_0 hu159020 hu159021 lhc159023 (by omega) (by omega)
                                      refine G_lload_n 5 dr_cX17_findDepth_179 rfl ?_
                                      refine G_iload 0 dr_cX17_findDepth_180 rfl ?_
                                      refine G_lushr dr_cX17_findDepth_182 (G_namL fun u159027 hu159027 => ?_)
                                      refine G_lconst 1 dr_cX17_findDepth_183 rfl ?_
                                      refine G_land dr_cX17_findDepth_184 (G_namL fun u159028 hu159028 => ?_)
                                      refine G_lconst 0 dr_cX17_findDepth_185 rfl ?_
                                      refine G_lcmp dr_cX17_findDepth_186 (G_nam fun z159029 hz159029 => ?_)
                                      have bz159029 : gB z159029 (-1) 1 := gB_cmp hz159029
                                      refine G_if_ne 193 dr_cX17_findDepth_187 (by decide +kernel) (fun hc159030 => ?_) (fun hc159030 => ?_)
                                      · have r159031 : z159029.toInt ≠ 0 := gj_neq hc159030 (show Int32.toInt 0 = 0 by decide)
                                        have lhc159030 := gC_cmpN hz159029 hc159030
                                        refine G_iconst 0 dr_cX17_findDepth_193 (by decide +kernel) ?_
                                        refine G_istore (L' := [(11, .int 0), (10, .int g159006), (9, .int g159007), (7, .long gl159008), (5, .long u156400), (4, .int g156217), (2, .long ol153092), (0, .ref q19445), (1, .ref q19446)]) dr_cX17_findDepth_194 (Nat.le_of_ble_eq_true rfl) rfl ?_
                                        refine G_iconst 0 dr_cX17_findDepth_196 (by decide +kernel) ?_
                                        refine G_istore (L' := [(12, .int 0), (11, .int 0), (10, .int g159006), (9, .int g159007), (7, .long gl159008), (5, .long u156400), (4, .int g156217), (2, .long ol153092), (0, .ref q19445), (1, .ref q19446)]) dr_cX17_findDepth_197 (Nat.le_of_ble_eq_true rfl) rfl ?_
                                        have hlp199_159150 : ∀ (n199_159150 : Nat) (g159149 : Int32) (g159150 : Int32), gB g159149 0 2 → gB g159150 0 1 → ((3 : Int) - g159149.toInt).toNat < n199_159150 → G (gV D I) l (gRm 5 112 0 0) (gMA (gV D I) (pt_19448_SpillForgeModel_findDepth D I γ el P19443 F19444 q19445 q19446) gNA 0 0) ky_19448_SpillForgeModel_findDepth 199 [(12, .int g159149), (11, .int g159150), (10, .int g159006), (9, .int g159007), (7, .long gl159008), (5, .long u156400), (4, .int g156217), (2, .long ol153092), (0, .ref q19445), (1, .ref q19446)] [] (va_pl P19443 F156218) 0 0 := by
                                          intro n199_159150
                                          induction n199_159150 with
                                          | zero => intro g159149 g159150 bg159149 bg159150 hm199_159150; exact absurd hm199_159150 (Nat.not_lt_zero _)
                                          | succ n199_159150 ih199_159150 =>
                                            intro g159149 g159150 bg159149 bg159150 hm199_159150
                                            refine G_iload 0 dr_cX17_findDepth_199 rfl ?_
                                            refine G_aload_n 9 dr_cX17_findDepth_201 rfl ?_
                                            refine G_iload 2 dr_cX17_findDepth_202 rfl ?_
                                            have hm159152 : q153060 ∈ P19443 := RS_m hT156219 ht153064 (by decide)
                                            obtain ⟨⟨p159154, p159155, q159156, he159153, r159157, r159158, r159159, r159161⟩, r159160⟩ := show rk_4 D I γ el F156218 q153060 from RS_o hT156219 ht153064
                                            have bp159154 := gB_any p159154
                                            have bp159155 : gB p159155 0 1000000 := ⟨by omega, by omega⟩
                                            obtain ⟨r159162, r159163, n159170, f159171, r159164, r159165, r159166, r159167, r159168, r159169⟩ := rLC_n r159159 (by omega)
                                            have hm159172 : q159156 ∈ P19443 := RS_m hT156219 r159162 (by decide)
                                            obtain ⟨q159173, hx159174⟩ : ∃ x, x = el q153060 g159006.toInt.toNat := ⟨_, rfl⟩
                                            have hx159175 : f159171 g159006.toNatClampNeg = some q159173 := (r159168 _ (show g159006.toInt.toNat < γ 2 q153060 by omega)).trans (by rw [hx159174])
                                            have ht159178 : rKd γ q159173 2 := by rw [hx159174]; exact (r153075 _ (by omega)).resolve_right (fun z => absurd z.1 (by omega))
                                            have ht159179 : rFm γ q159173 q153060 := by rw [hx159174]; exact (r159160 _ (show g159006.toInt.toNat < γ 2 q153060 by omega)).2.1
                                            have hm159180 : q159173 ∈ P19443 := RS_m hT156219 ht159178 (by decide)
                                            obtain ⟨q159182, q159183, p159184, p159185, he159181, ht159192, ht159186, ht159187, ht159188, ht159189, ht159190, bp159184, bp159185, r159191, r159193, r159194⟩ := show rk_2 γ q159173 (F156218 q159173) from RS_o hT156219 ht159178
                                            refine Gw_callV (As := [.int g159006]) (gV_ok D I) (cp_7723_Code_get l hl0 D I P19443 F156218 q19446 q153060 q159156 g159006 q153061 p153062 p153063 p159154 p159155 f159171 n159170 q159173 q159182 q159183 p159184 p159185 hm153058 hm159152 hm159172 hm159180 he156223 he159153 r159164 he159181 (gB_w bg159006' (by decide) (by decide)) (gB_w bp159155 (by decide) (by decide)) (by omega) (by omega) (by assumption) (by omega)) dr_cX17_findDepth_204 ⟨wr_10_161, wr_1_15, wr_10_141, by decide, rfl, (Nat.le_of_ble_eq_true rfl), (Nat.le_of_ble_eq_true rfl)⟩ wr_10_139 wr_10_140 hm153058 he156223 rfl (show 0 + 0 ≤ 0 by first | omega | decide) (show 0 + 0 ≤ 0 by first | omega | decide) (Nat.le_of_ble_eq_true rfl) (fun r159198 w159199 dc159195 ds159196 hp159197 => ?_) (fun _ _ _ _ _ z => z.elim)
                                            obtain ⟨rfl, rfl, hdc, hds⟩ := hp159197
                                            change G _ _ _ _ _ _ _ (.ref q159173 :: _) _ _ _
                                            refine G_widen (cs' := 0) (sl' := 0) (by omega) (by omega) ?_
                                            have hm159200 : q159183 ∈ P19443 := RS_m hT156219 ht159188 (by decide)
                                            obtain ⟨p159202, p159203, p159204, p159205, p159206, p159207, p159208, he159201, bp159202, bp159203, bp159206, bp159207, bp159208, r159209, r159210, r159211, r159212⟩ := show rk_1 γ q159183 (F156218 q159183) from RS_o hT156219 ht159188
                                            have bp159204 := gB_any p159204
                                            have bp159205 := gB_any p159205
                                            refine Gw_callV (As := []) (gV_ok D I) (cp_1809_Block_ways l hl0 D I P19443 F156218 q159173 q159183 q159182 p159184 p159185 p159202 p159203 p159204 p159205 p159206 p159207 p159208 hm159180 hm159200 he159181 he159201 bp159184 bp159185 bp159202 bp159203 bp159206 bp159207 bp159208) dr_cX17_findDepth_207 ⟨wr_10_166, wr_1_38, wr_10_169, by decide, rfl, (Nat.le_of_ble_eq_true rfl), (Nat.le_of_ble_eq_true rfl)⟩ wr_10_167 wr_10_168 hm159180 he159181 rfl (show 0 + 0 ≤ 0 by first | omega | decide) (show 0 + 0 ≤ 0 by first | omega | decide) (Nat.le_of_ble_eq_true rfl) (fun r159216 w159217 dc159213 ds159214 hp159215 => ?_) (fun _ _ _ _ _ z => z.elim)
                                            obtain ⟨o159218, rfl, rfl, hdc, hds, bo159218⟩ := hp159215
                                            change G _ _ _ _ _ _ _ (.int o159218 :: _) _ _ _
                                            refine G_widen (cs' := 0) (sl' := 0) (by omega) (by omega) ?_
                                            refine G_icmp_ge 268 dr_cX17_findDepth_210 (by decide +kernel) (fun hc159219 => ?_) (fun hc159219 => ?_)
                                            · have r159220 : o159218.toInt ≤ g159149.toInt := gC_le hc159219
                                              refine G_iload 1 dr_cX17_findDepth_268 rfl ?_
                                              refine G_if_ne 276 dr_cX17_findDepth_270 (by decide +kernel) (fun hc159221 => ?_) (fun hc159221 => ?_)
                                              · have r159222 : g159150.toInt ≠ 0 := gj_neq hc159221 (show Int32.toInt 0 = 0 by decide)
                                                have bg159150' : gB g159150 1 1 := ⟨by omega, by omega⟩
                                                refine G_lload 4 dr_cX17_findDepth_276 rfl ?_
                                                refine G_lconst 1 dr_cX17_findDepth_278 rfl ?_
                                                refine G_iload 2 dr_cX17_findDepth_279 rfl ?_
                                                refine G_lshl dr_cX17_findDepth_281 (G_namL fun u159223 hu159223 => ?_)
                                                have qu159223 : lb_Q u159223 (g159006.toInt % 64 + 1) := lb_Qshl hu159223 (by omega)
                                                refine G_lor dr_cX17_findDepth_282 (G_namL fun u159224 hu159224 => ?_)
                                                have pmu159224 : rpop gl159008 ≤ rpop u159224 := rpop_or hu159224
                                                have pnu159224 : rpop gl159008 + 1 ≤ rpop u159224 := rpop_new hu159224 hu159223 (by omega) (by omega) zhc159023
                                                refine G_lstore (L' := [(7, .long u159224), (12, .int g159149), (11, .int g159150), (10, .int g159006), (9, .int g159007), (5, .long u156400), (4, .int g156217), (2, .long ol153092), (0, .ref q19445), (1, .ref q19446)]) dr_cX17_findDepth_283 (Nat.le_of_ble_eq_true rfl) rfl ?_
                                                refine G_iconst 1 dr_cX17_findDepth_285 (by decide +kernel) ?_
                                                refine G_istore (L' := [(9, .int 1), (7, .long u159224), (12, .int g159149), (11, .int g159150), (10, .int g159006), (5, .long u156400), (4, .int g156217), (2, .long ol153092), (0, .ref q19445), (1, .ref q19446)]) dr_cX17_findDepth_286 (Nat.le_of_ble_eq_true rfl) rfl ?_
                                                obtain ⟨z159225, hz159225⟩ : ∃ z : Int32, z = g159006 + Int32.ofInt 1 := ⟨_, rfl⟩
                                                have ez159225 : z159225.toInt = g159006.toInt + 1 := gI_inc hz159225 (by decide) bg159006' (by decide) (by decide)
                                                have bz159225 : gB z159225 1 1000000 := ⟨by omega, by omega⟩
                                                refine G_iinc (L' := [(10, .int z159225), (9, .int 1), (7, .long u159224), (12, .int g159149), (11, .int g159150), (5, .long u156400), (4, .int g156217), (2, .long ol153092), (0, .ref q19445), (1, .ref q19446)]) z159225 4 dr_cX17_findDepth_288 rfl hz159225.symm (Nat.le_of_ble_eq_true rfl) rfl ?_
                                                refine G_goto 158 dr_cX17_findDepth_291 (by decide +kernel) ?_
                                                refine G_lv (L' := [(10, .int z159225), (9, .int 1), (7, .long u159224), (5, .long u156400), (4, .int g156217), (2, .long ol153092), (0, .ref q19445), (1, .ref q19446)]) [0, 1, 2, 5, 6, 7, 8, 9] rfl ?_
                                                exact ih158_159010 z159225 1 u159224 (gB_w bz159225 (by decide) (by decide)) (gB_w (gBl (show Int32.toInt 1 = 1 by decide)) (by decide) (by decide)) (rpop_le u159224) (by have qa0 : Int32.toInt 1 = 1 := (by decide); omega) (by have qa0 : Int32.toInt 1 = 1 := (by decide); omega)
                                              · have r159226 : g159150.toInt = 0 := gj_eq hc159221 (show Int32.toInt 0 = 0 by decide)
                                                have bg159150' : gB g159150 0 0 := ⟨by omega, by omega⟩
                                                refine G_goto 288 dr_cX17_findDepth_273 (by decide +kernel) ?_
                                                obtain ⟨z159227, hz159227⟩ : ∃ z : Int32, z = g159006 + Int32.ofInt 1 := ⟨_, rfl⟩
                                                have ez159227 : z159227.toInt = g159006.toInt + 1 := gI_inc hz159227 (by decide) bg159006' (by decide) (by decide)
                                                have bz159227 : gB z159227 1 1000000 := ⟨by omega, by omega⟩
                                                refine G_iinc (L' := [(10, .int z159227), (12, .int g159149), (11, .int g159150), (9, .int g159007), (7, .long gl159008), (5, .long u156400), (4, .int g156217), (2, .long ol153092), (0, .ref q19445), (1, .ref q19446)]) z159227 2 dr_cX17_findDepth_288 rfl hz159227.symm (Nat.le_of_ble_eq_true rfl) rfl ?_
                                                refine G_goto 158 dr_cX17_findDepth_291 (by decide +kernel) ?_
                                                refine G_lv (L' := [(10, .int z159227), (9, .int g159007), (7, .long gl159008), (5, .long u156400), (4, .int g156217), (2, .long ol153092), (0, .ref q19445), (1, .ref q19446)]) [0, 3, 4, 5, 6, 7, 8, 9] rfl ?_
                                                exact ih158_159010 z159227 g159007 gl159008 (gB_w bz159227 (by decide) (by decide)) bg159007 (rpop_le gl159008) (by omega) (by omega)
                                            · have r159228 : g159149.toInt < o159218.toInt := gC_nle hc159219
                                              have bg159149' : gB g159149 0 1 := ⟨by omega, by omega⟩
                                              have bo159218' : gB o159218 1 2 := ⟨by omega, by omega⟩
                                              refine G_iload 1 dr_cX17_findDepth_213 rfl ?_
                                              refine G_if_ne 255 dr_cX17_findDepth_215 (by decide +kernel) (fun hc159229 => ?_) (fun hc159229 => ?_)
                                              · have r159230 : g159150.toInt ≠ 0 := gj_neq hc159229 (show Int32.toInt 0 = 0 by decide)
                                                have bg159150' : gB g159150 1 1 := ⟨by omega, by omega⟩
                                                refine G_iconst 1 dr_cX17_findDepth_255 (by decide +kernel) ?_
                                                refine G_goto 260 dr_cX17_findDepth_256 (by decide +kernel) ?_
                                                refine G_istore (L' := [(11, .int 1), (12, .int g159149), (10, .int g159006), (9, .int g159007), (7, .long gl159008), (5, .long u156400), (4, .int g156217), (2, .long ol153092), (0, .ref q19445), (1, .ref q19446)]) dr_cX17_findDepth_260 (Nat.le_of_ble_eq_true rfl) rfl ?_
                                                obtain ⟨z159231, hz159231⟩ : ∃ z : Int32, z = g159149 + Int32.ofInt 1 := ⟨_, rfl⟩
                                                have ez159231 : z159231.toInt = g159149.toInt + 1 := gI_inc hz159231 (by decide) bg159149' (by decide) (by decide)
                                                have bz159231 : gB z159231 1 2 := ⟨by omega, by omega⟩
                                                refine G_iinc (L' := [(12, .int z159231), (11, .int 1), (10, .int g159006), (9, .int g159007), (7, .long gl159008), (5, .long u156400), (4, .int g156217), (2, .long ol153092), (0, .ref q19445), (1, .ref q19446)]) z159231 1 dr_cX17_findDepth_262 rfl hz159231.symm (Nat.le_of_ble_eq_true rfl) rfl ?_
                                                refine G_goto 199 dr_cX17_findDepth_265 (by decide +kernel) ?_
                                                exact ih199_159150 z159231 1 (gB_w bz159231 (by decide) (by decide)) (gB_w (gBl (show Int32.toInt 1 = 1 by decide)) (by decide) (by decide)) (by have qa0 : Int32.toInt 1 = 1 := (by decide); omega)
                                              · have r159232 : g159150.toInt = 0 := gj_eq hc159229 (show Int32.toInt 0 = 0 by decide)
                                                have bg159150' : gB g159150 0 0 := ⟨by omega, by omega⟩
                                                refine G_aload_n 9 dr_cX17_findDepth_218 rfl ?_
                                                refine G_iload 2 dr_cX17_findDepth_219 rfl ?_
                                                refine Gw_callV (As := [.int g159006]) (gV_ok D I) (cp_7723_Code_get l hl0 D I P19443 F156218 q19446 q153060 q159156 g159006 q153061 p153062 p153063 p159154 p159155 f159171 n159170 q159173 q159182 q159183 p159184 p159185 hm153058 hm159152 hm159172 hm159180 he156223 he159153 r159164 he159181 (gB_w bg159006' (by decide) (by decide)) (gB_w bp159155 (by decide) (by decide)) (by omega) (by omega) (by assumption) (by omega)) dr_cX17_findDepth_221 ⟨wr_10_161, wr_1_15, wr_10_141, by decide, rfl, (Nat.le_of_ble_eq_true rfl), (Nat.le_of_ble_eq_true rfl)⟩ wr_10_139 wr_10_140 hm153058 he156223 rfl (show 0 + 0 ≤ 0 by first | omega | decide) (show 0 + 0 ≤ 0 by first | omega | decide) (Nat.le_of_ble_eq_true rfl) (fun r159236 w159237 dc159233 ds159234 hp159235 => ?_) (fun _ _ _ _ _ z => z.elim)
                                                obtain ⟨rfl, rfl, hdc, hds⟩ := hp159235
                                                change G _ _ _ _ _ _ _ (.ref q159173 :: _) _ _ _
                                                refine G_widen (cs' := 0) (sl' := 0) (by omega) (by omega) ?_
                                                refine G_iload 0 dr_cX17_findDepth_224 rfl ?_
                                                refine Gw_callV (As := [.int g159149]) (gV_ok D I) (cp_5047_Block_way l hl0 D I P19443 F156218 q159173 q159183 g159149 q159182 p159184 p159185 p159202 p159203 p159204 p159205 p159206 p159207 p159208 hm159180 hm159200 he159181 he159201 bp159184 bp159185 bp159202 bp159203 bp159206 bp159207 bp159208) dr_cX17_findDepth_226 ⟨wr_10_170, wr_1_38, wr_10_173, by decide, rfl, (Nat.le_of_ble_eq_true rfl), (Nat.le_of_ble_eq_true rfl)⟩ wr_10_171 wr_10_172 hm159180 he159181 rfl (show 0 + 0 ≤ 0 by first | omega | decide) (show 0 + 0 ≤ 0 by first | omega | decide) (Nat.le_of_ble_eq_true rfl) (fun r159241 w159242 dc159238 ds159239 hp159240 => ?_) (fun _ _ _ _ _ z => z.elim)
                                                obtain ⟨o159243, rfl, rfl, hdc, hds, bo159243⟩ := hp159240
                                                change G _ _ _ _ _ _ _ (.int o159243 :: _) _ _ _
                                                refine G_widen (cs' := 0) (sl' := 0) (by omega) (by omega) ?_
                                                refine G_iload 6 dr_cX17_findDepth_229 rfl ?_
                                                refine G_icmp_eq 259 dr_cX17_findDepth_231 (by decide +kernel) (fun hc159244 => ?_) (fun hc159244 => ?_)
                                                · have r159245 : o159243.toInt = g156217.toInt := gC_eq hc159244
                                                  have bg156217'' : gB g156217 0 39 := ⟨by omega, by omega⟩
                                                  refine G_iconst 0 dr_cX17_findDepth_259 (by decide +kernel) ?_
                                                  refine G_istore (L' := [(11, .int 0), (12, .int g159149), (10, .int g159006), (9, .int g159007), (7, .long gl159008), (5, .long u156400), (4, .int g156217), (2, .long ol153092), (0, .ref q19445), (1, .ref q19446)]) dr_cX17_findDepth_260 (Nat.le_of_ble_eq_true rfl) rfl ?_
                                                  obtain ⟨z159246, hz159246⟩ : ∃ z : Int32, z = g159149 + Int32.ofInt 1 := ⟨_, rfl⟩
                                                  have ez159246 : z159246.toInt = g159149.toInt + 1 := gI_inc hz159246 (by decide) bg159149' (by decide) (by decide)
                                                  have bz159246 : gB z159246 1 2 := ⟨by omega, by omega⟩
                                                  refine G_iinc (L' := [(12, .int z159246), (11, .int 0), (10, .int g159006), (9, .int g159007), (7, .long gl159008), (5, .long u156400), (4, .int g156217), (2, .long ol153092), (0, .ref q19445), (1, .ref q19446)]) z159246 1 dr_cX17_findDepth_262 rfl hz159246.symm (Nat.le_of_ble_eq_true rfl) rfl ?_
                                                  refine G_goto 199 dr_cX17_findDepth_265 (by decide +kernel) ?_
                                                  exact ih199_159150 z159246 0 (gB_w bz159246 (by decide) (by decide)) (gB_w (gBl (show Int32.toInt 0 = 0 by decide)) (by decide) (by decide)) (by have qa0 : Int32.toInt 0 = 0 := (by decide); omega)
                                                · have r159247 : o159243.toInt ≠ g156217.toInt := gC_ne hc159244
                                                  refine G_lload 4 dr_cX17_findDepth_234 rfl ?_
                                                  refine G_aload_n 9 dr_cX17_findDepth_236 rfl ?_
                                                  refine G_iload 2 dr_cX17_findDepth_237 rfl ?_
                                                  refine Gw_callV (As := [.int g159006]) (gV_ok D I) (cp_7723_Code_get l hl0 D I P19443 F156218 q19446 q153060 q159156 g159006 q153061 p153062 p153063 p159154 p159155 f159171 n159170 q159173 q159182 q159183 p159184 p159185 hm153058 hm159152 hm159172 hm159180 he156223 he159153 r159164 he159181 (gB_w bg159006' (by decide) (by decide)) (gB_w bp159155 (by decide) (by decide)) (by omega) (by omega) (by assumption) (by omega)) dr_cX17_findDepth_239 ⟨wr_10_161, wr_1_15, wr_10_141, by decide, rfl, (Nat.le_of_ble_eq_true rfl), (Nat.le_of_ble_eq_true rfl)⟩ wr_10_139 wr_10_140 hm153058 he156223 rfl (show 0 + 0 ≤ 0 by first | omega | decide) (show 0 + 0 ≤ 0 by first | omega | decide) (Nat.le_of_ble_eq_true rfl) (fun r159251 w159252 dc159248 ds159249 hp159250 => ?_) (fun _ _ _ _ _ z => z.elim)
                                                  obtain ⟨rfl, rfl, hdc, hds⟩ := hp159250
                                                  change G _ _ _ _ _ _ _ (.ref q159173 :: _) _ _ _
                                                  refine G_widen (cs' := 0) (sl' := 0) (by omega) (by omega) ?_
                                                  refine G_iload 0 dr_cX17_findDepth_242 rfl ?_
                                                  refine Gw_callV (As := [.int g159149]) (gV_ok D I) (cp_5047_Block_way l hl0 D I P19443 F156218 q159173 q159183 g159149 q159182 p159184 p159185 p159202 p159203 p159204 p159205 p159206 p159207 p159208 hm159180 hm159200 he159181 he159201 bp159184 bp159185 bp159202 bp159203 bp159206 bp159207 bp159208) dr_cX17_findDepth_244 ⟨wr_10_170, wr_1_38, wr_10_173, by decide, rfl, (Nat.le_of_ble_eq_true rfl), (Nat.le_of_ble_eq_true rfl)⟩ wr_10_171 wr_10_172 hm159180 he159181 rfl (show 0 + 0 ≤ 0 by first | omega | decide) (show 0 + 0 ≤ 0 by first | omega | decide) (Nat.le_of_ble_eq_true rfl) (fun r159256 w159257 dc159253 ds159254 hp159255 => ?_) (fun _ _ _ _ _ z => z.elim)
                                                  obtain ⟨o159258, rfl, rfl, hdc, hds, bo159258⟩ := hp159255
                                                  change G _ _ _ _ _ _ _ (.int o159258 :: _) _ _ _
                                                  refine G_widen (cs' := 0) (sl' := 0) (by omega) (by omega) ?_
                                                  refine G_lushr dr_cX17_findDepth_247 (G_namL fun u159259 hu159259 => ?_)
                                                  refine G_lconst 1 dr_cX17_findDepth_248 rfl ?_
                                                  refine G_land dr_cX17_findDepth_249 (G_namL fun u159260 hu159260 => ?_)
                                                  refine G_lconst 0 dr_cX17_findDepth_250 rfl ?_
                                                  refine G_lcmp dr_cX17_findDepth_251 (G_nam fun z159261 hz159261 => ?_)
                                                  have bz159261 : gB z159261 (-1) 1 := gB_cmp hz159261
                                                  refine G_if_eq 259 dr_cX17_findDepth_252 (by decide +kernel) (fun hc159262 => ?_) (fun hc159262 => ?_)
                                                  · have r159263 : z159261.toInt = 0 := gj_eq hc159262 (show Int32.toInt 0 = 0 by decide)
                                                    have bz159261' : gB z159261 0 0 := ⟨by omega, by omega⟩
                                                    have lhc159262 := gC_cmpE hz159261 hc159262
                                                    have zhc159262 := rbit_0 hu159259 hu159260 lhc159262 (by omega) (by omega)
                                                    refine G_iconst 0 dr_cX17_findDepth_259 (by decide +kernel) ?_
                                                    refine G_istore (L' := [(11, .int 0), (12, .int g159149), (10, .int g159006), (9, .int g159007), (7, .long gl159008), (5, .long u156400), (4, .int g156217), (2, .long ol153092), (0, .ref q19445), (1, .ref q19446)]) dr_cX17_findDepth_260 (Nat.le_of_ble_eq_true rfl) rfl ?_
                                                    obtain ⟨z159264, hz159264⟩ : ∃ z : Int32, z = g159149 + Int32.ofInt 1 := ⟨_, rfl⟩
                                                    have ez159264 : z159264.toInt = g159149.toInt + 1 := gI_inc hz159264 (by decide) bg159149' (by decide) (by decide)
                                                    have bz159264 : gB z159264 1 2 := ⟨by omega, by omega⟩
                                                    refine G_iinc (L' := [(12, .int z159264), (11, .int 0), (10, .int g159006), (9, .int g159007), (7, .long gl159008), (5, .long u156400), (4, .int g156217), (2, .long ol153092), (0, .ref q19445), (1, .ref q19446)]) z159264 1 dr_cX17_findDepth_262 rfl hz159264.symm (Nat.le_of_ble_eq_true rfl) rfl ?_
                                                    refine G_goto 199 dr_cX17_findDepth_265 (by decide +kernel) ?_
                                                    exact ih199_159150 z159264 0 (gB_w bz159264 (by decide) (by decide)) (gB_w (gBl (show Int32.toInt 0 = 0 by decide)) (by decide) (by decide)) (by have qa0 : Int32.toInt 0 = 0 := (by decide); omega)
                                                  · have r159265 : z159261.toInt ≠ 0 := gj_neq hc159262 (show Int32.toInt 0 = 0 by decide)
                                                    have lhc159262 := gC_cmpN hz159261 hc159262
                                                    refine G_iconst 1 dr_cX17_findDepth_255 (by decide +kernel) ?_
                                                    refine G_goto 260 dr_cX17_findDepth_256 (by decide +kernel) ?_
                                                    refine G_istore (L' := [(11, .int 1), (12, .int g159149), (10, .int g159006), (9, .int g159007), (7, .long gl159008), (5, .long u156400), (4, .int g156217), (2, .long ol153092), (0, .ref q19445), (1, .ref q19446)]) dr_cX17_findDepth_260 (Nat.le_of_ble_eq_true rfl) rfl ?_
                                                    obtain ⟨z159266, hz159266⟩ : ∃ z : Int32, z = g159149 + Int32.ofInt 1 := ⟨_, rfl⟩
                                                    have ez159266 : z159266.toInt = g159149.toInt + 1 := gI_inc hz159266 (by decide) bg159149' (by decide) (by decide)
                                                    have bz159266 : gB z159266 1 2 := ⟨by omega, by omega⟩
                                                    refine G_iinc (L' := [(12, .int z159266), (11, .int 1), (10, .int g159006), (9, .int g159007), (7, .long gl159008), (5, .long u156400), (4, .int g156217), (2, .long ol153092), (0, .ref q19445), (1, .ref q19446)]) z159266 1 dr_cX17_findDepth_262 rfl hz159266.symm (Nat.le_of_ble_eq_true rfl) rfl ?_
                                                    refine G_goto 199 dr_cX17_findDepth_265 (by decide +kernel) ?_
                                                    exact ih199_159150 z159266 1 (gB_w bz159266 (by decide) (by decide)) (gB_w (gBl (show Int32.toInt 1 = 1 by decide)) (by decide) (by decide)) (by have qa0 : Int32.toInt 1 = 1 := (by decide); omega)
                                        exact hlp199_159150 (((3 : Int) - 0).toNat + 1) 0 0 (gB_w (gBl (show Int32.toInt 0 = 0 by decide)) (by decide) (by decide)) (gB_w (gBl (show Int32.toInt 0 = 0 by decide)) (by decide) (by decide)) (Nat.lt_succ_self _)
                                      · have r159267 : z159029.toInt = 0 := gj_eq hc159030 (show Int32.toInt 0 = 0 by decide)
                                        have bz159029' : gB z159029 0 0 := ⟨by omega, by omega⟩
                                        have lhc159030 := gC_cmpE hz159029 hc159030
                                        refine G_goto 288 dr_cX17_findDepth_190 (by decide +kernel) ?_
                                        obtain ⟨z159268, hz159268⟩ : ∃ z : Int32, z = g159006 + Int32.ofInt 1 := ⟨_, rfl⟩
                                        have ez159268 : z159268.toInt = g159006.toInt + 1 := gI_inc hz159268 (by decide) bg159006' (by decide) (by decide)
                                        have bz159268 : gB z159268 1 1000000 := ⟨by omega, by omega⟩
                                        refine G_iinc (L' := [(10, .int z159268), (9, .int g159007), (7, .long gl159008), (5, .long u156400), (4, .int g156217), (2, .long ol153092), (0, .ref q19445), (1, .ref q19446)]) z159268 0 dr_cX17_findDepth_288 rfl hz159268.symm (Nat.le_of_ble_eq_true rfl) rfl ?_
                                        refine G_goto 158 dr_cX17_findDepth_291 (by decide +kernel) ?_
                                        exact ih158_159010 z159268 g159007 gl159008 (gB_w bz159268 (by decide) (by decide)) bg159007 (rpop_le gl159008) (by omega) (by omega)
                              exact hlp158_159010 (((1000001 : Int) - 0).toNat + 1) 0 0 gl158577 (gB_w (gBl (show Int32.toInt 0 = 0 by decide)) (by decide) (by decide)) (gB_w (gBl (show Int32.toInt 0 = 0 by decide)) (by decide) (by decide)) (rpop_le gl158577) (by have qa0 : Int32.toInt 0 = 0 := (by decide); omega) (Nat.lt_succ_self _)
                        exact hlp147_158578 ((64 - rpop u157884) + ((1 : Int)).toNat + 1) 1 u157884 (gB_w (gBl (show Int32.toInt 1 = 1 by decide)) (by decide) (by decide)) (rpop_le u157884) (Nat.lt_succ_self _)
                      · have r159269 : z157880.toInt = 0 := gj_eq hc157881 (show Int32.toInt 0 = 0 by decide)
                        have bz157880' : gB z157880 0 0 := ⟨by omega, by omega⟩
                        have lhc157881 := gC_cmpE hz157880 hc157881
                        refine G_goto 333 dr_cX17_findDepth_132 (by decide +kernel) ?_
                        obtain ⟨z159270, hz159270⟩ : ∃ z : Int32, z = g156217 + Int32.ofInt 1 := ⟨_, rfl⟩
                        have ez159270 : z159270.toInt = g156217.toInt + 1 := gI_inc hz159270 (by decide) bg156217' (by decide) (by decide)
                        have bz159270 : gB z159270 1 1000000 := ⟨by omega, by omega⟩
                        refine G_iinc (L' := [(4, .int z159270), (9, .int g157870), (7, .long gl157871), (5, .long u156400), (2, .long ol153092), (0, .ref q19445), (1, .ref q19446)]) z159270 3 dr_cX17_findDepth_333 rfl hz159270.symm (Nat.le_of_ble_eq_true rfl) rfl ?_
                        refine G_goto 32 dr_cX17_findDepth_336 (by decide +kernel) ?_
                        refine G_lv (L' := [(4, .int z159270), (2, .long ol153092), (0, .ref q19445), (1, .ref q19446)]) [0, 4, 5, 6] rfl ?_
                        exact ih32_156220 F156218 z159270 (gB_w bz159270 (by decide) (by decide)) hT156219 hs156220 (by omega)
                    · have r159271 : g157870.toInt < p153063.toInt := gC_nle hc157878
                      have bg157870' : gB g157870 0 999999 := ⟨by omega, by omega⟩
                      refine G_lload 2 dr_cX17_findDepth_84 rfl ?_
                      refine G_iload 0 dr_cX17_findDepth_86 rfl ?_
                      refine G_lushr dr_cX17_findDepth_88 (G_namL fun u159272 hu159272 => ?_)
                      refine G_lconst 1 dr_cX17_findDepth_89 rfl ?_
                      refine G_land dr_cX17_findDepth_90 (G_namL fun u159273 hu159273 => ?_)
                      refine G_lconst 0 dr_cX17_findDepth_91 rfl ?_
                      refine G_lcmp dr_cX17_findDepth_92 (G_nam fun z159274 hz159274 => ?_)
                      have bz159274 : gB z159274 (-1) 1 := gB_cmp hz159274
                      refine G_if_eq 119 dr_cX17_findDepth_93 (by decide +kernel) (fun hc159275 => ?_) (fun hc159275 => ?_)
                      · have r159276 : z159274.toInt = 0 := gj_eq hc159275 (show Int32.toInt 0 = 0 by decide)
                        have bz159274' : gB z159274 0 0 := ⟨by omega, by omega⟩
                        have lhc159275 := gC_cmpE hz159274 hc159275
                        obtain ⟨z159277, hz159277⟩ : ∃ z : Int32, z = g157870 + Int32.ofInt 1 := ⟨_, rfl⟩
                        have ez159277 : z159277.toInt = g157870.toInt + 1 := gI_inc hz159277 (by decide) bg157870' (by decide) (by decide)
                        have bz159277 : gB z159277 1 1000000 := ⟨by omega, by omega⟩
                        refine G_iinc (L' := [(9, .int z159277), (7, .long gl157871), (5, .long u156400), (4, .int g156217), (2, .long ol153092), (0, .ref q19445), (1, .ref q19446)]) z159277 0 dr_cX17_findDepth_119 rfl hz159277.symm (Nat.le_of_ble_eq_true rfl) rfl ?_
                        refine G_goto 75 dr_cX17_findDepth_122 (by decide +kernel) ?_
                        exact ih75_157871 z159277 gl157871 (gB_w bz159277 (by decide) (by decide)) (by omega)
                      · have r159278 : z159274.toInt ≠ 0 := gj_neq hc159275 (show Int32.toInt 0 = 0 by decide)
                        have lhc159275 := gC_cmpN hz159274 hc159275
                        refine G_aload_n 6 dr_cX17_findDepth_96 rfl ?_
                        refine G_iload 0 dr_cX17_findDepth_97 rfl ?_
                        have hm159279 : q153060 ∈ P19443 := RS_m hT156219 ht153064 (by decide)
                        obtain ⟨⟨p159281, p159282, q159283, he159280, r159284, r159285, r159286, r159288⟩, r159287⟩ := show rk_4 D I γ el F156218 q153060 from RS_o hT156219 ht153064
                        have bp159281 := gB_any p159281
                        have bp159282 : gB p159282 0 1000000 := ⟨by omega, by omega⟩
                        obtain ⟨r159289, r159290, n159297, f159298, r159291, r159292, r159293, r159294, r159295, r159296⟩ := rLC_n r159286 (by omega)
                        have hm159299 : q159283 ∈ P19443 := RS_m hT156219 r159289 (by decide)
                        obtain ⟨q159300, hx159301⟩ : ∃ x, x = el q153060 g157870.toInt.toNat := ⟨_, rfl⟩
                        have hx159302 : f159298 g157870.toNatClampNeg = some q159300 := (r159295 _ (show g157870.toInt.toNat < γ 2 q153060 by omega)).trans (by rw [hx159301])
                        have ht159305 : rKd γ q159300 2 := by rw [hx159301]; exact (r153075 _ (by omega)).resolve_right (fun z => absurd z.1 (by omega))
                        have ht159306 : rFm γ q159300 q153060 := by rw [hx159301]; exact (r159287 _ (show g157870.toInt.toNat < γ 2 q153060 by omega)).2.1
                        have hm159307 : q159300 ∈ P19443 := RS_m hT156219 ht159305 (by decide)
                        obtain ⟨q159309, q159310, p159311, p159312, he159308, ht159319, ht159313, ht159314, ht159315, ht159316, ht159317, bp159311, bp159312, r159318, r159320, r159321⟩ := show rk_2 γ q159300 (F156218 q159300) from RS_o hT156219 ht159305
                        refine Gw_callV (As := [.int g157870]) (gV_ok D I) (cp_7723_Code_get l hl0 D I P19443 F156218 q19446 q153060 q159283 g157870 q153061 p153062 p153063 p159281 p159282 f159298 n159297 q159300 q159309 q159310 p159311 p159312 hm153058 hm159279 hm159299 hm159307 he156223 he159280 r159291 he159308 (gB_w bg157870' (by decide) (by decide)) (gB_w bp159282 (by decide) (by decide)) (by omega) (by omega) (by assumption) (by omega)) dr_cX17_findDepth_99 ⟨wr_10_161, wr_1_15, wr_10_141, by decide, rfl, (Nat.le_of_ble_eq_true rfl), (Nat.le_of_ble_eq_true rfl)⟩ wr_10_139 wr_10_140 hm153058 he156223 rfl (show 0 + 0 ≤ 0 by first | omega | decide) (show 0 + 0 ≤ 0 by first | omega | decide) (Nat.le_of_ble_eq_true rfl) (fun r159325 w159326 dc159322 ds159323 hp159324 => ?_) (fun _ _ _ _ _ z => z.elim)
                        obtain ⟨rfl, rfl, hdc, hds⟩ := hp159324
                        change G _ _ _ _ _ _ _ (.ref q159300 :: _) _ _ _
                        refine G_widen (cs' := 0) (sl' := 0) (by omega) (by omega) ?_
                        refine G_iload 3 dr_cX17_findDepth_102 rfl ?_
                        refine Gw_callS (As := [.ref q159300, .int g156217]) (gV_ok D I) (ct_7434_SpillForgeModel_leads l hl0 D I γ el P19443 F156218 q159300 g156217 hT156219 ht159305) dr_cX17_findDepth_104 ⟨wr_11_44, wr_1_14, wr_11_46, by decide, rfl, (Nat.le_of_ble_eq_true rfl), (Nat.le_of_ble_eq_true rfl)⟩ wr_11_45 (show 0 + 0 ≤ 0 by first | omega | decide) (show 0 + 0 ≤ 0 by first | omega | decide) (Nat.le_of_ble_eq_true rfl) (fun r159330 w159331 dc159327 ds159328 hp159329 => ?_) (fun _ _ _ _ _ z => z.elim)
                        obtain ⟨o159332, rfl, rfl, hdc, hds, bo159332⟩ := hp159329
                        change G _ _ _ _ _ _ _ (.int o159332 :: _) _ _ _
                        refine G_widen (cs' := 0) (sl' := 0) (by omega) (by omega) ?_
                        refine G_if_eq 119 dr_cX17_findDepth_107 (by decide +kernel) (fun hc159333 => ?_) (fun hc159333 => ?_)
                        · have r159334 : o159332.toInt = 0 := gj_eq hc159333 (show Int32.toInt 0 = 0 by decide)
                          have bo159332' : gB o159332 0 0 := ⟨by omega, by omega⟩
                          obtain ⟨z159335, hz159335⟩ : ∃ z : Int32, z = g157870 + Int32.ofInt 1 := ⟨_, rfl⟩
                          have ez159335 : z159335.toInt = g157870.toInt + 1 := gI_inc hz159335 (by decide) bg157870' (by decide) (by decide)
                          have bz159335 : gB z159335 1 1000000 := ⟨by omega, by omega⟩
                          refine G_iinc (L' := [(9, .int z159335), (7, .long gl157871), (5, .long u156400), (4, .int g156217), (2, .long ol153092), (0, .ref q19445), (1, .ref q19446)]) z159335 0 dr_cX17_findDepth_119 rfl hz159335.symm (Nat.le_of_ble_eq_true rfl) rfl ?_
                          refine G_goto 75 dr_cX17_findDepth_122 (by decide +kernel) ?_
                          exact ih75_157871 z159335 gl157871 (gB_w bz159335 (by decide) (by decide)) (by omega)
                        · have r159336 : o159332.toInt ≠ 0 := gj_neq hc159333 (show Int32.toInt 0 = 0 by decide)
                          have bo159332' : gB o159332 1 1 := ⟨by omega, by omega⟩
                          refine G_lload 1 dr_cX17_findDepth_110 rfl ?_
                          refine G_lconst 1 dr_cX17_findDepth_112 rfl ?_
                          refine G_iload 0 dr_cX17_findDepth_113 rfl ?_
                          refine G_lshl dr_cX17_findDepth_115 (G_namL fun u159337 hu159337 => ?_)
                          have qu159337 : lb_Q u159337 (g157870.toInt % 64 + 1) := lb_Qshl hu159337 (by omega)
                          refine G_lor dr_cX17_findDepth_116 (G_namL fun u159338 hu159338 => ?_)
                          have pmu159338 : rpop gl157871 ≤ rpop u159338 := rpop_or hu159338
                          refine G_lstore (L' := [(7, .long u159338), (9, .int g157870), (5, .long u156400), (4, .int g156217), (2, .long ol153092), (0, .ref q19445), (1, .ref q19446)]) dr_cX17_findDepth_117 (Nat.le_of_ble_eq_true rfl) rfl ?_
                          obtain ⟨z159339, hz159339⟩ : ∃ z : Int32, z = g157870 + Int32.ofInt 1 := ⟨_, rfl⟩
                          have ez159339 : z159339.toInt = g157870.toInt + 1 := gI_inc hz159339 (by decide) bg157870' (by decide) (by decide)
                          have bz159339 : gB z159339 1 1000000 := ⟨by omega, by omega⟩
                          refine G_iinc (L' := [(9, .int z159339), (7, .long u159338), (5, .long u156400), (4, .int g156217), (2, .long ol153092), (0, .ref q19445), (1, .ref q19446)]) z159339 1 dr_cX17_findDepth_119 rfl hz159339.symm (Nat.le_of_ble_eq_true rfl) rfl ?_
                          refine G_goto 75 dr_cX17_findDepth_122 (by decide +kernel) ?_
                          exact ih75_157871 z159339 u159338 (gB_w bz159339 (by decide) (by decide)) (by omega)
                exact hlp75_157871 (((1000001 : Int) - 0).toNat + 1) 0 0 (gB_w (gBl (show Int32.toInt 0 = 0 by decide)) (by decide) (by decide)) (Nat.lt_succ_self _)
              · have r159340 : z156390.toInt = 0 := gj_eq hc156391 (show Int32.toInt 0 = 0 by decide)
                have bz156390' : gB z156390 0 0 := ⟨by omega, by omega⟩
                have lhc156391 := gC_cmpE hz156390 hc156391
                refine G_goto 333 dr_cX17_findDepth_52 (by decide +kernel) ?_
                obtain ⟨z159341, hz159341⟩ : ∃ z : Int32, z = g156217 + Int32.ofInt 1 := ⟨_, rfl⟩
                have ez159341 : z159341.toInt = g156217.toInt + 1 := gI_inc hz159341 (by decide) bg156217' (by decide) (by decide)
                have bz159341 : gB z159341 1 1000000 := ⟨by omega, by omega⟩
                refine G_iinc (L' := [(4, .int z159341), (2, .long ol153092), (0, .ref q19445), (1, .ref q19446)]) z159341 0 dr_cX17_findDepth_333 rfl hz159341.symm (Nat.le_of_ble_eq_true rfl) rfl ?_
                refine G_goto 32 dr_cX17_findDepth_336 (by decide +kernel) ?_
                exact ih32_156220 F156218 z159341 (gB_w bz159341 (by decide) (by decide)) hT156219 hs156220 (by omega)
        exact hlp32_156220 (((1000001 : Int) - 0).toNat + 1) F153052 0 (gB_w (gBl (show Int32.toInt 0 = 0 by decide)) (by decide) (by decide)) hT153053 hs153054 (Nat.lt_succ_self _)
      · have r159342 : g153051.toInt < p153063.toInt := gC_nle hc153085
        have bg153051' : gB g153051 0 999999 := ⟨by omega, by omega⟩
        have bp153063' : gB p153063 1 1000000 := ⟨by omega, by omega⟩
        refine G_aload_n 1 dr_cX17_findDepth_10 rfl ?_
        have hm159343 : q19445 ∈ P19443 := RS_m hT153053 htq19445 (by decide)
        obtain ⟨q159345, q159346, p159347, p159348, p159349, p159350, p159351, p159352, p159353, p159354, p159355, p159356, p159357, p159358, p159359, p159360, p159361, he159344, hB159388, ht159362, ht159363, ht159364, ht159365, ht159366, ht159367, ht159368, ht159369, ht159370, ht159371, ht159372, ht159373, ht159374, ht159375, ht159376, ht159377, ht159378, ht159379, ht159380, ht159381, ht159382, ht159383, ht159384, ht159385, hB159389⟩ := show rk_10 γ (F153052 q19445) from RS_o hT153053 htq19445
        refine Gp_get 4 hm159343 he159344 dr_cX17_findDepth_11 (gk_X17 D I) (Nat.le_of_ble_eq_true rfl) wr_7_78 rfl ?_
        refine G_iload_n 0 dr_cX17_findDepth_14 rfl ?_
        refine G_iconst 0 dr_cX17_findDepth_15 (by decide +kernel) ?_
        have hm159390 : (γ 9 4) ∈ P19443 := RS_m hT153053 ht159368 (by decide)
        obtain ⟨f159392, he159391⟩ := show rk_16 I (F153052 (γ 9 4)) from RS_o hT153053 ht159368
        refine Gp_iast 0 hm159390 he159391 dr_cX17_findDepth_16 rfl (gB_inr (by omega) (by omega)) (fun F159393 e159394 n159395 => ?_)
        obtain ⟨f159396, hf159396⟩ : ∃ z, z = upd f159392 g153051.toNatClampNeg 0 := ⟨_, rfl⟩
        rw [← hf159396] at e159394
        have he159397 : F159393 q19446 = .inr (18, [.ref q153060, .ref q153061, .int p153062, .int p153063]) := (n159395 q19446 (rn_oa he153059 he159391)).trans he153059
        have he159398 : F159393 q19445 = .inr (22, [.ref (γ 9 0), .ref (γ 9 1), .ref (γ 9 2), .ref (γ 9 3), .ref (γ 9 4), .ref (γ 9 5), .ref (γ 9 6), .ref (γ 9 7), .ref (γ 9 8), .int p159347, .int p159348, .int p159349, .int p159350, .int p159351, .int p159352, .ref (γ 9 15), .ref (γ 9 16), .ref (γ 9 17), .ref (γ 9 18), .ref (γ 9 19), .ref (γ 9 20), .ref (γ 9 21), .ref (γ 9 22), .int p159353, .int p159354, .int p159355, .int p159356, .int p159357, .ref q159345, .ref (γ 9 29), .int p159358, .ref (γ 9 31), .int p159359, .int p159360, .int p159361, .ref q159346]) := (n159395 q19445 (rn_oa he159344 he159391)).trans he159344
        have he159399 : F159393 (γ 9 4) = .inl (I .int, 40, .inl f159396) := e159394
        have hs159400 : rStr γ [] F19444 F159393 := rStr_put hs153054 n159395 ht159368 (by decide)
        obtain ⟨z159401, hz159401⟩ : ∃ z : Int32, z = g153051 + Int32.ofInt 1 := ⟨_, rfl⟩
        have ez159401 : z159401.toInt = g153051.toInt + 1 := gI_inc hz159401 (by decide) bg153051' (by decide) (by decide)
        have bz159401 : gB z159401 1 1000000 := ⟨by omega, by omega⟩
        refine G_iinc (L' := [(2, .int z159401), (0, .ref q19445), (1, .ref q19446)]) z159401 0 dr_cX17_findDepth_17 rfl hz159401.symm (Nat.le_of_ble_eq_true rfl) rfl ?_
        refine G_goto 2 dr_cX17_findDepth_20 (by decide +kernel) ?_
        have hT159402 : RS D I P19443 F159393 γ el := RS_set hT153053 n159395 ht159368 (by decide) ⟨f159396, he159399⟩
        exact ih2_153054 F159393 z159401 (gB_w bz159401 (by decide) (by decide)) hT159402 hs159400 (by omega)
  exact hlp2_153054 (((1000001 : Int) - 0).toNat + 1) F19444 0 (gB_w (gBl (show Int32.toInt 0 = 0 by decide)) (by decide) (by decide)) hT (rStr_rf (γ := γ) (W := []) (F := F19444)) (Nat.lt_succ_self _)
