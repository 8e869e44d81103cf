theorem dr_cX17_findDepth_0 : decode cX17_findDepth 0 = .ok (.iconst 0, 1) := by decide +kernel
theorem dr_cX17_findDepth_1 : decode cX17_findDepth 1 = .ok (.istore_n 2, 1) := by decide +kernel
theorem dr_cX17_findDepth_2 : decode cX17_findDepth 2 = .ok (.iload_n 2, 1) := by decide +kernel
theorem dr_cX17_findDepth_3 : decode cX17_findDepth 3 = .ok (.aload_n 1, 1) := by decide +kernel
theorem dr_cX17_findDepth_4 : decode cX17_findDepth 4 = .ok (.invokevirtual 96, 3) := by decide +kernel
theorem dr_cX17_findDepth_7 : decode cX17_findDepth 7 = .ok (.if_icmp .ge 16, 3) := by decide +kernel
theorem dr_cX17_findDepth_23 : decode cX17_findDepth 23 = .ok (.aload_n 1, 1) := by decide +kernel
theorem dr_cX17_findDepth_24 : decode cX17_findDepth 24 = .ok (.iconst (-1), 1) := by decide +kernel
theorem dr_cX17_findDepth_25 : decode cX17_findDepth 25 = .ok (.invokestatic 156, 3) := by decide +kernel
theorem wr_11_41 : (Jvm.Cond.methodLink "SpillForgeModel" (156 : Nat) ({ cls := "SpillForgeModel", name := "reached", desc := "(LSpillForgeModel$Code;I)J" } : Jvm.MethodName)) ∈ gw := gw_11 41 rfl rfl
theorem wr_11_43 : (Jvm.Cond.code ({ cls := "SpillForgeModel", name := "reached", desc := "(LSpillForgeModel$Code;I)J" } : Jvm.MethodName) prog_14_method_12_code (8 : Nat) (Option.some Jvm.ClassFile.FieldType.long)) ∈ gw := gw_11 43 rfl rfl
theorem wr_11_42 : (Jvm.Cond.static ({ cls := "SpillForgeModel", name := "reached", desc := "(LSpillForgeModel$Code;I)J" } : Jvm.MethodName)) ∈ gw := gw_11 42 rfl rfl
theorem dr_cX17_findDepth_28 : decode cX17_findDepth 28 = .ok (.lstore_n 2, 1) := by decide +kernel
theorem dr_cX17_findDepth_29 : decode cX17_findDepth 29 = .ok (.iconst 0, 1) := by decide +kernel
theorem dr_cX17_findDepth_30 : decode cX17_findDepth 30 = .ok (.istore 4, 2) := by decide +kernel
theorem dr_cX17_findDepth_32 : decode cX17_findDepth 32 = .ok (.iload 4, 2) := by decide +kernel
theorem dr_cX17_findDepth_34 : decode cX17_findDepth 34 = .ok (.aload_n 1, 1) := by decide +kernel
theorem dr_cX17_findDepth_35 : decode cX17_findDepth 35 = .ok (.invokevirtual 96, 3) := by decide +kernel
theorem dr_cX17_findDepth_38 : decode cX17_findDepth 38 = .ok (.if_icmp .ge 301, 3) := by decide +kernel
theorem dr_cX17_findDepth_339 : decode cX17_findDepth 339 = .ok (.iconst 0, 1) := by decide +kernel
theorem dr_cX17_findDepth_340 : decode cX17_findDepth 340 = .ok (.istore 4, 2) := by decide +kernel
theorem dr_cX17_findDepth_342 : decode cX17_findDepth 342 = .ok (.iload 4, 2) := by decide +kernel
theorem dr_cX17_findDepth_344 : decode cX17_findDepth 344 = .ok (.aload_n 1, 1) := by decide +kernel
theorem dr_cX17_findDepth_345 : decode cX17_findDepth 345 = .ok (.invokevirtual 96, 3) := by decide +kernel
theorem dr_cX17_findDepth_348 : decode cX17_findDepth 348 = .ok (.if_icmp .ge 27, 3) := by decide +kernel
theorem dr_cX17_findDepth_375 : decode cX17_findDepth 375 = .ok (.return_, 1) := by decide +kernel
theorem dr_cX17_findDepth_351 : decode cX17_findDepth 351 = .ok (.aload_n 0, 1) := by decide +kernel
theorem dr_cX17_findDepth_352 : decode cX17_findDepth 352 = .ok (.getfield 152, 3) := by decide +kernel
theorem wr_7_78 : (Jvm.Cond.fieldLink "SpillForgeModel" (152 : Nat) "SpillForgeModel" "depth" "[I") ∈ gw := gw_7 78 rfl rfl
theorem dr_cX17_findDepth_355 : decode cX17_findDepth 355 = .ok (.iload 4, 2) := by decide +kernel
theorem dr_cX17_findDepth_357 : decode cX17_findDepth 357 = .ok (.aload_n 0, 1) := by decide +kernel
theorem dr_cX17_findDepth_358 : decode cX17_findDepth 358 = .ok (.getfield 152, 3) := by decide +kernel
theorem dr_cX17_findDepth_361 : decode cX17_findDepth 361 = .ok (.iload 4, 2) := by decide +kernel
theorem dr_cX17_findDepth_363 : decode cX17_findDepth 363 = .ok (.iaload, 1) := by decide +kernel
theorem dr_cX17_findDepth_364 : decode cX17_findDepth 364 = .ok (.iconst 4, 1) := by decide +kernel
theorem dr_cX17_findDepth_365 : decode cX17_findDepth 365 = .ok (.invokestatic 164, 3) := by decide +kernel
theorem wr_11_20 : (Jvm.Cond.methodLink "SpillForgeModel" (164 : Nat) ({ cls := "java/lang/Math", name := "min", desc := "(II)I" } : Jvm.MethodName)) ∈ gw := gw_11 20 rfl rfl
theorem dr_cX17_findDepth_368 : decode cX17_findDepth 368 = .ok (.iastore, 1) := by decide +kernel
theorem dr_cX17_findDepth_369 : decode cX17_findDepth 369 = .ok (.iinc 4 1, 3) := by decide +kernel
theorem dr_cX17_findDepth_372 : decode cX17_findDepth 372 = .ok (.goto (-30), 3) := by decide +kernel
theorem dr_cX17_findDepth_41 : decode cX17_findDepth 41 = .ok (.lload_n 2, 1) := by decide +kernel
theorem dr_cX17_findDepth_42 : decode cX17_findDepth 42 = .ok (.iload 4, 2) := by decide +kernel
theorem dr_cX17_findDepth_44 : decode cX17_findDepth 44 = .ok (.lushr, 1) := by decide +kernel
theorem dr_cX17_findDepth_45 : decode cX17_findDepth 45 = .ok (.lconst 1, 1) := by decide +kernel
theorem dr_cX17_findDepth_46 : decode cX17_findDepth 46 = .ok (.land, 1) := by decide +kernel
theorem dr_cX17_findDepth_47 : decode cX17_findDepth 47 = .ok (.lconst 0, 1) := by decide +kernel
theorem dr_cX17_findDepth_48 : decode cX17_findDepth 48 = .ok (.lcmp, 1) := by decide +kernel
theorem dr_cX17_findDepth_49 : decode cX17_findDepth 49 = .ok (.ifCond .ne 6, 3) := by decide +kernel
theorem dr_cX17_findDepth_55 : decode cX17_findDepth 55 = .ok (.lload_n 2, 1) := by decide +kernel
theorem dr_cX17_findDepth_56 : decode cX17_findDepth 56 = .ok (.aload_n 1, 1) := by decide +kernel
theorem dr_cX17_findDepth_57 : decode cX17_findDepth 57 = .ok (.iload 4, 2) := by decide +kernel
theorem dr_cX17_findDepth_59 : decode cX17_findDepth 59 = .ok (.invokestatic 156, 3) := by decide +kernel
theorem dr_cX17_findDepth_62 : decode cX17_findDepth 62 = .ok (.ldc2_w 31, 3) := by decide +kernel
theorem dr_cX17_findDepth_65 : decode cX17_findDepth 65 = .ok (.lxor, 1) := by decide +kernel
theorem dr_cX17_findDepth_66 : decode cX17_findDepth 66 = .ok (.land, 1) := by decide +kernel
theorem dr_cX17_findDepth_67 : decode cX17_findDepth 67 = .ok (.lstore 5, 2) := by decide +kernel
theorem dr_cX17_findDepth_69 : decode cX17_findDepth 69 = .ok (.lconst 0, 1) := by decide +kernel
theorem dr_cX17_findDepth_70 : decode cX17_findDepth 70 = .ok (.lstore 7, 2) := by decide +kernel
theorem dr_cX17_findDepth_72 : decode cX17_findDepth 72 = .ok (.iconst 0, 1) := by decide +kernel
theorem dr_cX17_findDepth_73 : decode cX17_findDepth 73 = .ok (.istore 9, 2) := by decide +kernel
theorem dr_cX17_findDepth_75 : decode cX17_findDepth 75 = .ok (.iload 9, 2) := by decide +kernel
theorem dr_cX17_findDepth_77 : decode cX17_findDepth 77 = .ok (.aload_n 1, 1) := by decide +kernel
theorem dr_cX17_findDepth_78 : decode cX17_findDepth 78 = .ok (.invokevirtual 96, 3) := by decide +kernel
theorem dr_cX17_findDepth_81 : decode cX17_findDepth 81 = .ok (.if_icmp .ge 44, 3) := by decide +kernel
theorem dr_cX17_findDepth_125 : decode cX17_findDepth 125 = .ok (.lload 7, 2) := by decide +kernel
theorem dr_cX17_findDepth_127 : decode cX17_findDepth 127 = .ok (.lconst 0, 1) := by decide +kernel
theorem dr_cX17_findDepth_128 : decode cX17_findDepth 128 = .ok (.lcmp, 1) := by decide +kernel
theorem dr_cX17_findDepth_129 : decode cX17_findDepth 129 = .ok (.ifCond .ne 6, 3) := by decide +kernel
theorem dr_cX17_findDepth_135 : decode cX17_findDepth 135 = .ok (.lload 7, 2) := by decide +kernel
theorem dr_cX17_findDepth_137 : decode cX17_findDepth 137 = .ok (.lconst 1, 1) := by decide +kernel
theorem dr_cX17_findDepth_138 : decode cX17_findDepth 138 = .ok (.iload 4, 2) := by decide +kernel
theorem dr_cX17_findDepth_140 : decode cX17_findDepth 140 = .ok (.lshl, 1) := by decide +kernel
theorem dr_cX17_findDepth_141 : decode cX17_findDepth 141 = .ok (.lor, 1) := by decide +kernel
theorem dr_cX17_findDepth_142 : decode cX17_findDepth 142 = .ok (.lstore 7, 2) := by decide +kernel
theorem dr_cX17_findDepth_144 : decode cX17_findDepth 144 = .ok (.iconst 1, 1) := by decide +kernel
theorem dr_cX17_findDepth_145 : decode cX17_findDepth 145 = .ok (.istore 9, 2) := by decide +kernel
theorem dr_cX17_findDepth_147 : decode cX17_findDepth 147 = .ok (.iload 9, 2) := by decide +kernel
theorem dr_cX17_findDepth_149 : decode cX17_findDepth 149 = .ok (.ifCond .eq 148, 3) := by decide +kernel
theorem dr_cX17_findDepth_297 : decode cX17_findDepth 297 = .ok (.iconst 0, 1) := by decide +kernel
theorem dr_cX17_findDepth_298 : decode cX17_findDepth 298 = .ok (.istore 10, 2) := by decide +kernel
theorem dr_cX17_findDepth_300 : decode cX17_findDepth 300 = .ok (.iload 10, 2) := by decide +kernel
theorem dr_cX17_findDepth_302 : decode cX17_findDepth 302 = .ok (.aload_n 1, 1) := by decide +kernel
theorem dr_cX17_findDepth_303 : decode cX17_findDepth 303 = .ok (.invokevirtual 96, 3) := by decide +kernel
theorem dr_cX17_findDepth_306 : decode cX17_findDepth 306 = .ok (.if_icmp .ge 27, 3) := by decide +kernel
theorem dr_cX17_findDepth_333 : decode cX17_findDepth 333 = .ok (.iinc 4 1, 3) := by decide +kernel
theorem dr_cX17_findDepth_336 : decode cX17_findDepth 336 = .ok (.goto (-304), 3) := by decide +kernel
theorem dr_cX17_findDepth_309 : decode cX17_findDepth 309 = .ok (.aload_n 0, 1) := by decide +kernel
theorem dr_cX17_findDepth_310 : decode cX17_findDepth 310 = .ok (.getfield 152, 3) := by decide +kernel
theorem dr_cX17_findDepth_313 : decode cX17_findDepth 313 = .ok (.iload 10, 2) := by decide +kernel
theorem dr_cX17_findDepth_315 : decode cX17_findDepth 315 = .ok (.dup2, 1) := by decide +kernel
theorem dr_cX17_findDepth_316 : decode cX17_findDepth 316 = .ok (.iaload, 1) := by decide +kernel
theorem dr_cX17_findDepth_317 : decode cX17_findDepth 317 = .ok (.lload 7, 2) := by decide +kernel
theorem dr_cX17_findDepth_319 : decode cX17_findDepth 319 = .ok (.iload 10, 2) := by decide +kernel
theorem dr_cX17_findDepth_321 : decode cX17_findDepth 321 = .ok (.lushr, 1) := by decide +kernel
theorem dr_cX17_findDepth_322 : decode cX17_findDepth 322 = .ok (.lconst 1, 1) := by decide +kernel
theorem dr_cX17_findDepth_323 : decode cX17_findDepth 323 = .ok (.land, 1) := by decide +kernel
theorem dr_cX17_findDepth_324 : decode cX17_findDepth 324 = .ok (.l2i, 1) := by decide +kernel
theorem dr_cX17_findDepth_325 : decode cX17_findDepth 325 = .ok (.iadd, 1) := by decide +kernel
theorem dr_cX17_findDepth_326 : decode cX17_findDepth 326 = .ok (.iastore, 1) := by decide +kernel
theorem dr_cX17_findDepth_327 : decode cX17_findDepth 327 = .ok (.iinc 10 1, 3) := by decide +kernel
theorem dr_cX17_findDepth_330 : decode cX17_findDepth 330 = .ok (.goto (-30), 3) := by decide +kernel
theorem dr_cX17_findDepth_152 : decode cX17_findDepth 152 = .ok (.iconst 0, 1) := by decide +kernel
theorem dr_cX17_findDepth_153 : decode cX17_findDepth 153 = .ok (.istore 9, 2) := by decide +kernel
theorem dr_cX17_findDepth_155 : decode cX17_findDepth 155 = .ok (.iconst 0, 1) := by decide +kernel
theorem dr_cX17_findDepth_156 : decode cX17_findDepth 156 = .ok (.istore 10, 2) := by decide +kernel
theorem dr_cX17_findDepth_158 : decode cX17_findDepth 158 = .ok (.iload 10, 2) := by decide +kernel
theorem dr_cX17_findDepth_160 : decode cX17_findDepth 160 = .ok (.aload_n 1, 1) := by decide +kernel
theorem dr_cX17_findDepth_161 : decode cX17_findDepth 161 = .ok (.invokevirtual 96, 3) := by decide +kernel
theorem dr_cX17_findDepth_164 : decode cX17_findDepth 164 = .ok (.if_icmp .ge 130, 3) := by decide +kernel
theorem dr_cX17_findDepth_294 : decode cX17_findDepth 294 = .ok (.goto (-147), 3) := by decide +kernel
theorem dr_cX17_findDepth_167 : decode cX17_findDepth 167 = .ok (.lload 7, 2) := by decide +kernel
theorem dr_cX17_findDepth_169 : decode cX17_findDepth 169 = .ok (.iload 10, 2) := by decide +kernel
theorem dr_cX17_findDepth_171 : decode cX17_findDepth 171 = .ok (.lushr, 1) := by decide +kernel
theorem dr_cX17_findDepth_172 : decode cX17_findDepth 172 = .ok (.lconst 1, 1) := by decide +kernel
theorem dr_cX17_findDepth_173 : decode cX17_findDepth 173 = .ok (.land, 1) := by decide +kernel
theorem dr_cX17_findDepth_174 : decode cX17_findDepth 174 = .ok (.lconst 0, 1) := by decide +kernel
theorem dr_cX17_findDepth_175 : decode cX17_findDepth 175 = .ok (.lcmp, 1) := by decide +kernel
theorem dr_cX17_findDepth_176 : decode cX17_findDepth 176 = .ok (.ifCond .ne 112, 3) := by decide +kernel
theorem dr_cX17_findDepth_288 : decode cX17_findDepth 288 = .ok (.iinc 10 1, 3) := by decide +kernel
theorem dr_cX17_findDepth_291 : decode cX17_findDepth 291 = .ok (.goto (-133), 3) := by decide +kernel
theorem dr_cX17_findDepth_179 : decode cX17_findDepth 179 = .ok (.lload_n 2, 1) := by decide +kernel
theorem dr_cX17_findDepth_180 : decode cX17_findDepth 180 = .ok (.iload 10, 2) := by decide +kernel
theorem dr_cX17_findDepth_182 : decode cX17_findDepth 182 = .ok (.lushr, 1) := by decide +kernel
theorem dr_cX17_findDepth_183 : decode cX17_findDepth 183 = .ok (.lconst 1, 1) := by decide +kernel
theorem dr_cX17_findDepth_184 : decode cX17_findDepth 184 = .ok (.land, 1) := by decide +kernel
theorem dr_cX17_findDepth_185 : decode cX17_findDepth 185 = .ok (.lconst 0, 1) := by decide +kernel
theorem dr_cX17_findDepth_186 : decode cX17_findDepth 186 = .ok (.lcmp, 1) := by decide +kernel
theorem dr_cX17_findDepth_187 : decode cX17_findDepth 187 = .ok (.ifCond .ne 6, 3) := by decide +kernel
theorem dr_cX17_findDepth_193 : decode cX17_findDepth 193 = .ok (.iconst 0, 1) := by decide +kernel
theorem dr_cX17_findDepth_194 : decode cX17_findDepth 194 = .ok (.istore 11, 2) := by decide +kernel
theorem dr_cX17_findDepth_196 : decode cX17_findDepth 196 = .ok (.iconst 0, 1) := by decide +kernel
theorem dr_cX17_findDepth_197 : decode cX17_findDepth 197 = .ok (.istore 12, 2) := by decide +kernel
theorem dr_cX17_findDepth_199 : decode cX17_findDepth 199 = .ok (.iload 12, 2) := by decide +kernel
theorem dr_cX17_findDepth_201 : decode cX17_findDepth 201 = .ok (.aload_n 1, 1) := by decide +kernel
theorem dr_cX17_findDepth_202 : decode cX17_findDepth 202 = .ok (.iload 10, 2) := by decide +kernel
theorem dr_cX17_findDepth_204 : decode cX17_findDepth 204 = .ok (.invokevirtual 101, 3) := by decide +kernel
theorem dr_cX17_findDepth_207 : decode cX17_findDepth 207 = .ok (.invokevirtual 82, 3) := by decide +kernel
theorem dr_cX17_findDepth_210 : decode cX17_findDepth 210 = .ok (.if_icmp .ge 58, 3) := by decide +kernel
theorem dr_cX17_findDepth_268 : decode cX17_findDepth 268 = .ok (.iload 11, 2) := by decide +kernel
theorem dr_cX17_findDepth_270 : decode cX17_findDepth 270 = .ok (.ifCond .ne 6, 3) := by decide +kernel
theorem dr_cX17_findDepth_276 : decode cX17_findDepth 276 = .ok (.lload 7, 2) := by decide +kernel
theorem dr_cX17_findDepth_278 : decode cX17_findDepth 278 = .ok (.lconst 1, 1) := by decide +kernel
theorem dr_cX17_findDepth_279 : decode cX17_findDepth 279 = .ok (.iload 10, 2) := by decide +kernel
theorem dr_cX17_findDepth_281 : decode cX17_findDepth 281 = .ok (.lshl, 1) := by decide +kernel
theorem dr_cX17_findDepth_282 : decode cX17_findDepth 282 = .ok (.lor, 1) := by decide +kernel
theorem dr_cX17_findDepth_283 : decode cX17_findDepth 283 = .ok (.lstore 7, 2) := by decide +kernel
theorem dr_cX17_findDepth_285 : decode cX17_findDepth 285 = .ok (.iconst 1, 1) := by decide +kernel
theorem dr_cX17_findDepth_286 : decode cX17_findDepth 286 = .ok (.istore 9, 2) := by decide +kernel
theorem dr_cX17_findDepth_273 : decode cX17_findDepth 273 = .ok (.goto 15, 3) := by decide +kernel
theorem dr_cX17_findDepth_213 : decode cX17_findDepth 213 = .ok (.iload 11, 2) := by decide +kernel
theorem dr_cX17_findDepth_215 : decode cX17_findDepth 215 = .ok (.ifCond .ne 40, 3) := by decide +kernel
theorem dr_cX17_findDepth_255 : decode cX17_findDepth 255 = .ok (.iconst 1, 1) := by decide +kernel
theorem dr_cX17_findDepth_256 : decode cX17_findDepth 256 = .ok (.goto 4, 3) := by decide +kernel
theorem dr_cX17_findDepth_260 : decode cX17_findDepth 260 = .ok (.istore 11, 2) := by decide +kernel
theorem dr_cX17_findDepth_262 : decode cX17_findDepth 262 = .ok (.iinc 12 1, 3) := by decide +kernel
theorem dr_cX17_findDepth_265 : decode cX17_findDepth 265 = .ok (.goto (-66), 3) := by decide +kernel
theorem dr_cX17_findDepth_218 : decode cX17_findDepth 218 = .ok (.aload_n 1, 1) := by decide +kernel
theorem dr_cX17_findDepth_219 : decode cX17_findDepth 219 = .ok (.iload 10, 2) := by decide +kernel
theorem dr_cX17_findDepth_221 : decode cX17_findDepth 221 = .ok (.invokevirtual 101, 3) := by decide +kernel
theorem dr_cX17_findDepth_224 : decode cX17_findDepth 224 = .ok (.iload 12, 2) := by decide +kernel
theorem dr_cX17_findDepth_226 : decode cX17_findDepth 226 = .ok (.invokevirtual 92, 3) := by decide +kernel
theorem dr_cX17_findDepth_229 : decode cX17_findDepth 229 = .ok (.iload 4, 2) := by decide +kernel
theorem dr_cX17_findDepth_231 : decode cX17_findDepth 231 = .ok (.if_icmp .eq 28, 3) := by decide +kernel
theorem dr_cX17_findDepth_259 : decode cX17_findDepth 259 = .ok (.iconst 0, 1) := by decide +kernel
theorem dr_cX17_findDepth_234 : decode cX17_findDepth 234 = .ok (.lload 7, 2) := by decide +kernel
theorem dr_cX17_findDepth_236 : decode cX17_findDepth 236 = .ok (.aload_n 1, 1) := by decide +kernel
theorem dr_cX17_findDepth_237 : decode cX17_findDepth 237 = .ok (.iload 10, 2) := by decide +kernel
theorem dr_cX17_findDepth_239 : decode cX17_findDepth 239 = .ok (.invokevirtual 101, 3) := by decide +kernel
theorem dr_cX17_findDepth_242 : decode cX17_findDepth 242 = .ok (.iload 12, 2) := by decide +kernel
theorem dr_cX17_findDepth_244 : decode cX17_findDepth 244 = .ok (.invokevirtual 92, 3) := by decide +kernel
theorem dr_cX17_findDepth_247 : decode cX17_findDepth 247 = .ok (.lushr, 1) := by decide +kernel
theorem dr_cX17_findDepth_248 : decode cX17_findDepth 248 = .ok (.lconst 1, 1) := by decide +kernel
theorem dr_cX17_findDepth_249 : decode cX17_findDepth 249 = .ok (.land, 1) := by decide +kernel
theorem dr_cX17_findDepth_250 : decode cX17_findDepth 250 = .ok (.lconst 0, 1) := by decide +kernel
theorem dr_cX17_findDepth_251 : decode cX17_findDepth 251 = .ok (.lcmp, 1) := by decide +kernel
theorem dr_cX17_findDepth_252 : decode cX17_findDepth 252 = .ok (.ifCond .eq 7, 3) := by decide +kernel
theorem dr_cX17_findDepth_190 : decode cX17_findDepth 190 = .ok (.goto 98, 3) := by decide +kernel
theorem dr_cX17_findDepth_132 : decode cX17_findDepth 132 = .ok (.goto 201, 3) := by decide +kernel
theorem dr_cX17_findDepth_84 : decode cX17_findDepth 84 = .ok (.lload 5, 2) := by decide +kernel
theorem dr_cX17_findDepth_86 : decode cX17_findDepth 86 = .ok (.iload 9, 2) := by decide +kernel
theorem dr_cX17_findDepth_88 : decode cX17_findDepth 88 = .ok (.lushr, 1) := by decide +kernel
theorem dr_cX17_findDepth_89 : decode cX17_findDepth 89 = .ok (.lconst 1, 1) := by decide +kernel
theorem dr_cX17_findDepth_90 : decode cX17_findDepth 90 = .ok (.land, 1) := by decide +kernel
theorem dr_cX17_findDepth_91 : decode cX17_findDepth 91 = .ok (.lconst 0, 1) := by decide +kernel
theorem dr_cX17_findDepth_92 : decode cX17_findDepth 92 = .ok (.lcmp, 1) := by decide +kernel
theorem dr_cX17_findDepth_93 : decode cX17_findDepth 93 = .ok (.ifCond .eq 26, 3) := by decide +kernel
theorem dr_cX17_findDepth_119 : decode cX17_findDepth 119 = .ok (.iinc 9 1, 3) := by decide +kernel
theorem dr_cX17_findDepth_122 : decode cX17_findDepth 122 = .ok (.goto (-47), 3) := by decide +kernel
theorem dr_cX17_findDepth_96 : decode cX17_findDepth 96 = .ok (.aload_n 1, 1) := by decide +kernel
theorem dr_cX17_findDepth_97 : decode cX17_findDepth 97 = .ok (.iload 9, 2) := by decide +kernel
theorem dr_cX17_findDepth_99 : decode cX17_findDepth 99 = .ok (.invokevirtual 101, 3) := by decide +kernel
theorem dr_cX17_findDepth_102 : decode cX17_findDepth 102 = .ok (.iload 4, 2) := by decide +kernel
theorem dr_cX17_findDepth_104 : decode cX17_findDepth 104 = .ok (.invokestatic 160, 3) := by decide +kernel
theorem wr_11_44 : (Jvm.Cond.methodLink "SpillForgeModel" (160 : Nat) ({ cls := "SpillForgeModel", name := "leads", desc := "(LSpillForgeModel$Block;I)Z" } : Jvm.MethodName)) ∈ gw := gw_11 44 rfl rfl
theorem wr_11_46 : (Jvm.Cond.code ({ cls := "SpillForgeModel", name := "leads", desc := "(LSpillForgeModel$Block;I)Z" } : Jvm.MethodName) prog_14_method_13_code (3 : Nat) (Option.some Jvm.ClassFile.FieldType.boolean)) ∈ gw := gw_11 46 rfl rfl
theorem wr_11_45 : (Jvm.Cond.static ({ cls := "SpillForgeModel", name := "leads", desc := "(LSpillForgeModel$Block;I)Z" } : Jvm.MethodName)) ∈ gw := gw_11 45 rfl rfl
theorem dr_cX17_findDepth_107 : decode cX17_findDepth 107 = .ok (.ifCond .eq 12, 3) := by decide +kernel
theorem dr_cX17_findDepth_110 : decode cX17_findDepth 110 = .ok (.lload 7, 2) := by decide +kernel
theorem dr_cX17_findDepth_112 : decode cX17_findDepth 112 = .ok (.lconst 1, 1) := by decide +kernel
theorem dr_cX17_findDepth_113 : decode cX17_findDepth 113 = .ok (.iload 9, 2) := by decide +kernel
theorem dr_cX17_findDepth_115 : decode cX17_findDepth 115 = .ok (.lshl, 1) := by decide +kernel
theorem dr_cX17_findDepth_116 : decode cX17_findDepth 116 = .ok (.lor, 1) := by decide +kernel
theorem dr_cX17_findDepth_117 : decode cX17_findDepth 117 = .ok (.lstore 7, 2) := by decide +kernel
theorem dr_cX17_findDepth_52 : decode cX17_findDepth 52 = .ok (.goto 281, 3) := by decide +kernel
theorem dr_cX17_findDepth_10 : decode cX17_findDepth 10 = .ok (.aload_n 0, 1) := by decide +kernel
theorem dr_cX17_findDepth_11 : decode cX17_findDepth 11 = .ok (.getfield 152, 3) := by decide +kernel
theorem dr_cX17_findDepth_14 : decode cX17_findDepth 14 = .ok (.iload_n 2, 1) := by decide +kernel
theorem dr_cX17_findDepth_15 : decode cX17_findDepth 15 = .ok (.iconst 0, 1) := by decide +kernel
theorem dr_cX17_findDepth_16 : decode cX17_findDepth 16 = .ok (.iastore, 1) := by decide +kernel
theorem dr_cX17_findDepth_17 : decode cX17_findDepth 17 = .ok (.iinc 2 1, 3) := by decide +kernel
theorem dr_cX17_findDepth_20 : decode cX17_findDepth 20 = .ok (.goto (-18), 3) := by decide +kernel
abbrev ky_19523_SpillForgeModel_findDepth : gKey := (cX17_findDepth, 13, "SpillForgeModel", none, [], "findDepth", fun _ _ => True)
def pt_19523_SpillForgeModel_findDepth (D : va_G) (I : FieldType → ClassId) (γ el : Nat → Nat → Nat) (P19518 : List Nat) (F19519 : Nat → va_E) (q19520 : Nat) (q19521 : Nat) : Option Value → va_W → Nat → Nat → Prop := fun r w dc ds => ∃ (F160196 : Nat → va_E), r = none ∧ w = va_pl P19518 F160196 ∧ RS D I P19518 F160196 γ el ∧ rStr γ [] F19519 F160196 ∧ dc ≤ 0 ∧ ds ≤ 0
set_option maxRecDepth 100000 in
set_option maxHeartbeats 4000000 in
theorem ct_19523_SpillForgeModel_findDepth (l : Launch) (hl0 : l.stackTraces = false) (D : va_G) (I : FieldType → ClassId) (γ el : Nat → Nat → Nat) (P19518 : List Nat) (F19519 : Nat → va_E) (q19520 : Nat) (q19521 : Nat) (hT : RS D I P19518 F19519 γ el) (htq19520 : rKd γ q19520 10) (htq19521 : rKd γ q19521 9) (x19522 : 0 < γ 6 (γ 1 q19521)) : CtA (gV D I) l yX17_findDepth cX17_findDepth 13 none 5 112 0 0 [.ref q19520, .ref q19521] (va_pl P19518 F19519) (pt_19523_SpillForgeModel_findDepth D I γ el P19518 F19519 q19520 q19521) gNA := by
  refine CtA_of hl0 (by decide) (Nat.le_of_ble_eq_true rfl) ?_
  refine G_iconst 0 dr_cX17_findDepth_0 (by decide +kernel) ?_
  refine G_istore_n (L' := [(2, .int 0), (0, .ref q19520), (1, .ref q19521)]) dr_cX17_findDepth_1 (Nat.le_of_ble_eq_true rfl) rfl ?_
  have hlp2_153815 : ∀ (n2_153815 : Nat) (F153813 : Nat → va_E) (g153812 : Int32), gB g153812 0 1000000 → RS D I P19518 F153813 γ el → rStr γ [] F19519 F153813 → ((1000001 : Int) - g153812.toInt).toNat < n2_153815 → G (gV D I) l (gRm 5 112 0 0) (gMA (gV D I) (pt_19523_SpillForgeModel_findDepth D I γ el P19518 F19519 q19520 q19521) gNA 0 0) ky_19523_SpillForgeModel_findDepth 2 [(2, .int g153812), (0, .ref q19520), (1, .ref q19521)] [] (va_pl P19518 F153813) 0 0 := by
    intro n2_153815
    induction n2_153815 with
    | zero => intro F153813 g153812 bg153812 hT153814 hs153815 hm2_153815; exact absurd hm2_153815 (Nat.not_lt_zero _)
    | succ n2_153815 ih2_153815 =>
      intro F153813 g153812 bg153812 hT153814 hs153815 hm2_153815
      have hs153817 : rStr γ [] F19519 F153813 := fun b h0 hb hw => (hs153815 b h0 hb hw).trans ((rStr_rf (γ := γ) (W := []) (F := F19519)) b h0 hb hw).symm
      have hs153818 : rStr γ [] F19519 F153813 := rStr_tr (rStr_rf (γ := γ) (W := []) (F := F19519)) hs153817
      refine G_iload_n 0 dr_cX17_findDepth_2 rfl ?_
      refine G_aload_n 2 dr_cX17_findDepth_3 rfl ?_
      have hm153819 : q19521 ∈ P19518 := RS_m hT153814 htq19521 (by decide)
      obtain ⟨q153821, q153822, p153823, p153824, he153820, ht153840, ht153825, ht153826, ht153827, ht153828, r153829, r153830, r153831, r153832, r153833, r153834, r153835, r153836, r153837, r153838, r153839⟩ := show rk_9 γ el q19521 (F153813 q19521) from RS_o hT153814 htq19521
      have bp153823 : gB p153823 0 1000000 := ⟨by omega, by omega⟩
      have bp153824 : gB p153824 0 1000000 := ⟨by omega, by omega⟩
      refine Gw_callV (As := []) (gV_ok D I) (cp_12496_Code_size l hl0 D I P19518 F153813 q19521 q153821 q153822 p153823 p153824 hm153819 he153820) dr_cX17_findDepth_4 ⟨wr_10_160, wr_1_15, wr_9_131, by decide, rfl, (Nat.le_of_ble_eq_true rfl), (Nat.le_of_ble_eq_true rfl)⟩ wr_9_129 wr_9_130 hm153819 he153820 rfl (show 0 + 0 ≤ 0 by first | omega | decide) (show 0 + 0 ≤ 0 by first | omega | decide) (Nat.le_of_ble_eq_true rfl) (fun r153844 w153845 dc153841 ds153842 hp153843 => ?_) (fun _ _ _ _ _ z => z.elim)
      obtain ⟨rfl, rfl, hdc, hds⟩ := hp153843
      change G _ _ _ _ _ _ _ (.int p153824 :: _) _ _ _
      refine G_widen (cs' := 0) (sl' := 0) (by omega) (by omega) ?_
      refine G_icmp_ge 23 dr_cX17_findDepth_7 (by decide +kernel) (fun hc153846 => ?_) (fun hc153846 => ?_)
      · have r153847 : p153824.toInt ≤ g153812.toInt := gC_le hc153846
        refine G_aload_n 2 dr_cX17_findDepth_23 rfl ?_
        refine G_iconst (-1) dr_cX17_findDepth_24 (by decide +kernel) ?_
        refine Gw_callS (As := [.ref q19521, .int (-1)]) (gV_ok D I) (ct_12464_SpillForgeModel_reached l hl0 D I γ el P19518 F153813 q19521 (-1) hT153814 htq19521 (by omega)) dr_cX17_findDepth_25 ⟨wr_11_41, wr_1_14, wr_11_43, by decide, rfl, (Nat.le_of_ble_eq_true rfl), (Nat.le_of_ble_eq_true rfl)⟩ wr_11_42 (show 0 + 0 ≤ 0 by first | omega | decide) (show 0 + 0 ≤ 0 by first | omega | decide) (Nat.le_of_ble_eq_true rfl) (fun r153851 w153852 dc153848 ds153849 hp153850 => ?_) (fun _ _ _ _ _ z => z.elim)
        obtain ⟨ol153853, rfl, rfl, hdc, hds⟩ := hp153850
        change G _ _ _ _ _ _ _ (.long ol153853 :: _) _ _ _
        refine G_widen (cs' := 0) (sl' := 0) (by omega) (by omega) ?_
        refine G_lstore_n (L' := [(2, .long ol153853), (0, .ref q19520), (1, .ref q19521)]) dr_cX17_findDepth_28 (Nat.le_of_ble_eq_true rfl) rfl ?_
        refine G_iconst 0 dr_cX17_findDepth_29 (by decide +kernel) ?_
        refine G_istore (L' := [(4, .int 0), (2, .long ol153853), (0, .ref q19520), (1, .ref q19521)]) dr_cX17_findDepth_30 (Nat.le_of_ble_eq_true rfl) rfl ?_
        have hlp32_156997 : ∀ (n32_156997 : Nat) (F156995 : Nat → va_E) (g156994 : Int32), gB g156994 0 1000000 → RS D I P19518 F156995 γ el → rStr γ [] F19519 F156995 → ((1000001 : Int) - g156994.toInt).toNat < n32_156997 → G (gV D I) l (gRm 5 112 0 0) (gMA (gV D I) (pt_19523_SpillForgeModel_findDepth D I γ el P19518 F19519 q19520 q19521) gNA 0 0) ky_19523_SpillForgeModel_findDepth 32 [(4, .int g156994), (2, .long ol153853), (0, .ref q19520), (1, .ref q19521)] [] (va_pl P19518 F156995) 0 0 := by
          intro n32_156997
          induction n32_156997 with
          | zero => intro F156995 g156994 bg156994 hT156996 hs156997 hm32_156997; exact absurd hm32_156997 (Nat.not_lt_zero _)
          | succ n32_156997 ih32_156997 =>
            intro F156995 g156994 bg156994 hT156996 hs156997 hm32_156997
            have hs156999 : rStr γ [] F153813 F156995 := fun b h0 hb hw => (hs156997 b h0 hb hw).trans (hs153815 b h0 hb hw).symm
            have he157000 : F156995 q19521 = .inr (18, [.ref q153821, .ref q153822, .int p153823, .int p153824]) := (hs156999 q19521 (rT0 htq19521 (by decide)) (rT1 htq19521 (by decide)) (rT2 htq19521 (by decide))).trans he153820
            have hs157001 : rStr γ [] F19519 F156995 := rStr_tr hs153815 hs156999
            refine G_iload 0 dr_cX17_findDepth_32 rfl ?_
            refine G_aload_n 3 dr_cX17_findDepth_34 rfl ?_
            refine Gw_callV (As := []) (gV_ok D I) (cp_12496_Code_size l hl0 D I P19518 F156995 q19521 q153821 q153822 p153823 p153824 hm153819 he157000) dr_cX17_findDepth_35 ⟨wr_10_160, wr_1_15, wr_9_131, by decide, rfl, (Nat.le_of_ble_eq_true rfl), (Nat.le_of_ble_eq_true rfl)⟩ wr_9_129 wr_9_130 hm153819 he157000 rfl (show 0 + 0 ≤ 0 by first | omega | decide) (show 0 + 0 ≤ 0 by first | omega | decide) (Nat.le_of_ble_eq_true rfl) (fun r157005 w157006 dc157002 ds157003 hp157004 => ?_) (fun _ _ _ _ _ z => z.elim)
            obtain ⟨rfl, rfl, hdc, hds⟩ := hp157004
            change G _ _ _ _ _ _ _ (.int p153824 :: _) _ _ _
            refine G_widen (cs' := 0) (sl' := 0) (by omega) (by omega) ?_
            refine G_icmp_ge 339 dr_cX17_findDepth_38 (by decide +kernel) (fun hc157007 => ?_) (fun hc157007 => ?_)
            · have r157008 : p153824.toInt ≤ g156994.toInt := gC_le hc157007
              refine G_iconst 0 dr_cX17_findDepth_339 (by decide +kernel) ?_
              refine G_istore (L' := [(4, .int 0), (2, .long ol153853), (0, .ref q19520), (1, .ref q19521)]) dr_cX17_findDepth_340 (Nat.le_of_ble_eq_true rfl) rfl ?_
              have hlp342_157089 : ∀ (n342_157089 : Nat) (F157087 : Nat → va_E) (g157086 : Int32), gB g157086 0 1000000 → RS D I P19518 F157087 γ el → rStr γ [] F19519 F157087 → ((1000001 : Int) - g157086.toInt).toNat < n342_157089 → G (gV D I) l (gRm 5 112 0 0) (gMA (gV D I) (pt_19523_SpillForgeModel_findDepth D I γ el P19518 F19519 q19520 q19521) gNA 0 0) ky_19523_SpillForgeModel_findDepth 342 [(4, .int g157086), (2, .long ol153853), (0, .ref q19520), (1, .ref q19521)] [] (va_pl P19518 F157087) 0 0 := by
                intro n342_157089
                induction n342_157089 with
                | zero => intro F157087 g157086 bg157086 hT157088 hs157089 hm342_157089; exact absurd hm342_157089 (Nat.not_lt_zero _)
                | succ n342_157089 ih342_157089 =>
                  intro F157087 g157086 bg157086 hT157088 hs157089 hm342_157089
                  have hs157091 : rStr γ [] F156995 F157087 := fun b h0 hb hw => (hs157089 b h0 hb hw).trans (hs156997 b h0 hb hw).symm
                  have he157092 : F157087 q19521 = .inr (18, [.ref q153821, .ref q153822, .int p153823, .int p153824]) := (hs157091 q19521 (rT0 htq19521 (by decide)) (rT1 htq19521 (by decide)) (rT2 htq19521 (by decide))).trans he157000
                  have hs157093 : rStr γ [] F19519 F157087 := rStr_tr hs156997 hs157091
                  refine G_iload 0 dr_cX17_findDepth_342 rfl ?_
                  refine G_aload_n 3 dr_cX17_findDepth_344 rfl ?_
                  refine Gw_callV (As := []) (gV_ok D I) (cp_12496_Code_size l hl0 D I P19518 F157087 q19521 q153821 q153822 p153823 p153824 hm153819 he157092) dr_cX17_findDepth_345 ⟨wr_10_160, wr_1_15, wr_9_131, by decide, rfl, (Nat.le_of_ble_eq_true rfl), (Nat.le_of_ble_eq_true rfl)⟩ wr_9_129 wr_9_130 hm153819 he157092 rfl (show 0 + 0 ≤ 0 by first | omega | decide) (show 0 + 0 ≤ 0 by first | omega | decide) (Nat.le_of_ble_eq_true rfl) (fun r157097 w157098 dc157094 ds157095 hp157096 => ?_) (fun _ _ _ _ _ z => z.elim)
                  obtain ⟨rfl, rfl, hdc, hds⟩ := hp157096
                  change G _ _ _ _ _ _ _ (.int p153824 :: _) _ _ _
                  refine G_widen (cs' := 0) (sl' := 0) (by omega) (by omega) ?_
                  refine G_icmp_ge 375 dr_cX17_findDepth_348 (by decide +kernel) (fun hc157099 => ?_) (fun hc157099 => ?_)
                  · have r157100 : p153824.toInt ≤ g157086.toInt := gC_le hc157099
                    exact G_vretA dr_cX17_findDepth_375 rfl (Nat.le_of_ble_eq_true rfl) (Nat.le_of_ble_eq_true rfl) ⟨F157087, rfl, rfl, hT157088, hs157089, (Nat.le_of_ble_eq_true rfl), (Nat.le_of_ble_eq_true rfl)⟩
                  · have r157101 : g157086.toInt < p153824.toInt := gC_nle hc157099
                    have bg157086' : gB g157086 0 999999 := ⟨by omega, by omega⟩
                    have bp153824' : gB p153824 1 1000000 := ⟨by omega, by omega⟩
                    refine G_aload_n 2 dr_cX17_findDepth_351 rfl ?_
                    have hm157102 : q19520 ∈ P19518 := RS_m hT157088 htq19520 (by decide)
                    obtain ⟨q157104, q157105, p157106, p157107, p157108, p157109, p157110, p157111, p157112, p157113, p157114, p157115, p157116, p157117, p157118, p157119, p157120, he157103, hB157147, ht157121, ht157122, ht157123, ht157124, ht157125, ht157126, ht157127, ht157128, ht157129, ht157130, ht157131, ht157132, ht157133, ht157134, ht157135, ht157136, ht157137, ht157138, ht157139, ht157140, ht157141, ht157142, ht157143, ht157144, hB157148⟩ := show rk_10 γ (F157087 q19520) from RS_o hT157088 htq19520
                    refine Gp_get 4 hm157102 he157103 dr_cX17_findDepth_352 (gk_X17 D I) (Nat.le_of_ble_eq_true rfl) wr_7_78 rfl ?_
                    refine G_iload 0 dr_cX17_findDepth_355 rfl ?_
                    refine G_aload_n 2 dr_cX17_findDepth_357 rfl ?_
                    refine Gp_get 4 hm157102 he157103 dr_cX17_findDepth_358 (gk_X17 D I) (Nat.le_of_ble_eq_true rfl) wr_7_78 rfl ?_
                    refine G_iload 0 dr_cX17_findDepth_361 rfl ?_
                    have hm157149 : (γ 9 4) ∈ P19518 := RS_m hT157088 ht157127 (by decide)
                    obtain ⟨f157151, he157150⟩ := show rk_16 I (F157087 (γ 9 4)) from RS_o hT157088 ht157127
                    refine Gp_iald 0 hm157149 he157150 dr_cX17_findDepth_363 rfl (gB_inr (by omega) (by omega)) (G_nam fun z157152 hz157152 => ?_)
                    have bz157152 : gB z157152 (-2147483648) 2147483647 := gB_any z157152
                    refine G_iconst 4 dr_cX17_findDepth_364 (by decide +kernel) ?_
                    refine G_mmin dr_cX17_findDepth_365 wr_11_20 wr_3_227 wr_1_6 wr_3_228 (Nat.le_of_ble_eq_true rfl) (Nat.le_of_ble_eq_true rfl) (show 0 ≤ 0 by first | omega | decide) (show 0 ≤ 0 by first | omega | decide) (G_nam fun z157153 hz157153 => ?_)
                    have ez157153 : z157152.toInt ≥ z157153.toInt ∧ 4 ≥ z157153.toInt ∧ (z157153.toInt = z157152.toInt ∨ z157153.toInt = 4) := by have := gI_min hz157153; rw [show Int32.toInt 4 = 4 from by decide] at this; omega
                    have bz157153 : gB z157153 (-2147483648) 4 := ⟨by omega, by omega⟩
                    refine Gp_iast 0 hm157149 he157150 dr_cX17_findDepth_368 rfl (gB_inr (by omega) (by omega)) (fun F157154 e157155 n157156 => ?_)
                    obtain ⟨f157157, hf157157⟩ : ∃ z, z = upd f157151 g157086.toNatClampNeg z157153 := ⟨_, rfl⟩
                    rw [← hf157157] at e157155
                    have he157158 : F157154 q19521 = .inr (18, [.ref q153821, .ref q153822, .int p153823, .int p153824]) := (n157156 q19521 (rn_oa he157092 he157150)).trans he157092
                    have he157159 : F157154 q19520 = .inr (22, [.ref (γ 9 0), .ref (γ 9 1), .ref (γ 9 2), .ref (γ 9 3), .ref (γ 9 4), .ref (γ 9 5), .ref (γ 9 6), .ref (γ 9 7), .ref (γ 9 8), .int p157106, .int p157107, .int p157108, .int p157109, .int p157110, .int p157111, .ref (γ 9 15), .ref (γ 9 16), .ref (γ 9 17), .ref (γ 9 18), .ref (γ 9 19), .ref (γ 9 20), .ref (γ 9 21), .ref (γ 9 22), .int p157112, .int p157113, .int p157114, .int p157115, .int p157116, .ref q157104, .ref (γ 9 29), .int p157117, .ref (γ 9 31), .int p157118, .int p157119, .int p157120, .ref q157105]) := (n157156 q19520 (rn_oa he157103 he157150)).trans he157103
                    have he157160 : F157154 (γ 9 4) = .inl (I .int, 40, .inl f157157) := e157155
                    have hs157161 : rStr γ [] F19519 F157154 := rStr_put hs157089 n157156 ht157127 (by decide)
                    obtain ⟨z157162, hz157162⟩ : ∃ z : Int32, z = g157086 + Int32.ofInt 1 := ⟨_, rfl⟩
                    have ez157162 : z157162.toInt = g157086.toInt + 1 := gI_inc hz157162 (by decide) bg157086' (by decide) (by decide)
                    have bz157162 : gB z157162 1 1000000 := ⟨by omega, by omega⟩
                    refine G_iinc (L' := [(4, .int z157162), (2, .long ol153853), (0, .ref q19520), (1, .ref q19521)]) z157162 0 dr_cX17_findDepth_369 rfl hz157162.symm (Nat.le_of_ble_eq_true rfl) rfl ?_
                    refine G_goto 342 dr_cX17_findDepth_372 (by decide +kernel) ?_
                    have hT157163 : RS D I P19518 F157154 γ el := RS_set hT157088 n157156 ht157127 (by decide) ⟨f157157, he157160⟩
                    exact ih342_157089 F157154 z157162 (gB_w bz157162 (by decide) (by decide)) hT157163 hs157161 (by omega)
              exact hlp342_157089 (((1000001 : Int) - 0).toNat + 1) F156995 0 (gB_w (gBl (show Int32.toInt 0 = 0 by decide)) (by decide) (by decide)) hT156996 hs156997 (Nat.lt_succ_self _)
            · have r157164 : g156994.toInt < p153824.toInt := gC_nle hc157007
              have bg156994' : gB g156994 0 999999 := ⟨by omega, by omega⟩
              have bp153824' : gB p153824 1 1000000 := ⟨by omega, by omega⟩
              refine G_lload_n 1 dr_cX17_findDepth_41 rfl ?_
              refine G_iload 0 dr_cX17_findDepth_42 rfl ?_
              refine G_lushr dr_cX17_findDepth_44 (G_namL fun u157165 hu157165 => ?_)
              refine G_lconst 1 dr_cX17_findDepth_45 rfl ?_
              refine G_land dr_cX17_findDepth_46 (G_namL fun u157166 hu157166 => ?_)
              refine G_lconst 0 dr_cX17_findDepth_47 rfl ?_
              refine G_lcmp dr_cX17_findDepth_48 (G_nam fun z157167 hz157167 => ?_)
              have bz157167 : gB z157167 (-1) 1 := gB_cmp hz157167
              refine G_if_ne 55 dr_cX17_findDepth_49 (by decide +kernel) (fun hc157168 => ?_) (fun hc157168 => ?_)
              · have r157169 : z157167.toInt ≠ 0 := gj_neq hc157168 (show Int32.toInt 0 = 0 by decide)
                have lhc157168 := gC_cmpN hz157167 hc157168
                refine G_lload_n 1 dr_cX17_findDepth_55 rfl ?_
                refine G_aload_n 3 dr_cX17_findDepth_56 rfl ?_
                refine G_iload 0 dr_cX17_findDepth_57 rfl ?_
                refine Gw_callS (As := [.ref q19521, .int g156994]) (gV_ok D I) (ct_12464_SpillForgeModel_reached l hl0 D I γ el P19518 F156995 q19521 g156994 hT156996 htq19521 (by omega)) dr_cX17_findDepth_59 ⟨wr_11_41, wr_1_14, wr_11_43, by decide, rfl, (Nat.le_of_ble_eq_true rfl), (Nat.le_of_ble_eq_true rfl)⟩ wr_11_42 (show 0 + 0 ≤ 0 by first | omega | decide) (show 0 + 0 ≤ 0 by first | omega | decide) (Nat.le_of_ble_eq_true rfl) (fun r157173 w157174 dc157170 ds157171 hp157172 => ?_) (fun _ _ _ _ _ z => z.elim)
                obtain ⟨ol157175, rfl, rfl, hdc, hds⟩ := hp157172
                change G _ _ _ _ _ _ _ (.long ol157175 :: _) _ _ _
                refine G_widen (cs' := 0) (sl' := 0) (by omega) (by omega) ?_
                refine G_ldc2 (-1) dr_cX17_findDepth_62 wr_10_188 ?_
                refine G_lxor dr_cX17_findDepth_65 (G_namL fun u157176 hu157176 => ?_)
                refine G_land dr_cX17_findDepth_66 (G_namL fun u157177 hu157177 => ?_)
                refine G_lstore (L' := [(5, .long u157177), (4, .int g156994), (2, .long ol153853), (0, .ref q19520), (1, .ref q19521)]) dr_cX17_findDepth_67 (Nat.le_of_ble_eq_true rfl) rfl ?_
                refine G_lconst 0 dr_cX17_findDepth_69 rfl ?_
                refine G_lstore (L' := [(7, .long 0), (5, .long u157177), (4, .int g156994), (2, .long ol153853), (0, .ref q19520), (1, .ref q19521)]) dr_cX17_findDepth_70 (Nat.le_of_ble_eq_true rfl) rfl ?_
                refine G_iconst 0 dr_cX17_findDepth_72 (by decide +kernel) ?_
                refine G_istore (L' := [(9, .int 0), (7, .long 0), (5, .long u157177), (4, .int g156994), (2, .long ol153853), (0, .ref q19520), (1, .ref q19521)]) dr_cX17_findDepth_73 (Nat.le_of_ble_eq_true rfl) rfl ?_
                have hlp75_158656 : ∀ (n75_158656 : Nat) (g158655 : Int32) (gl158656 : Int64), gB g158655 0 1000000 → ((1000001 : Int) - g158655.toInt).toNat < n75_158656 → G (gV D I) l (gRm 5 112 0 0) (gMA (gV D I) (pt_19523_SpillForgeModel_findDepth D I γ el P19518 F19519 q19520 q19521) gNA 0 0) ky_19523_SpillForgeModel_findDepth 75 [(9, .int g158655), (7, .long gl158656), (5, .long u157177), (4, .int g156994), (2, .long ol153853), (0, .ref q19520), (1, .ref q19521)] [] (va_pl P19518 F156995) 0 0 := by
                  intro n75_158656
                  induction n75_158656 with
                  | zero => intro g158655 gl158656 bg158655 hm75_158656; exact absurd hm75_158656 (Nat.not_lt_zero _)
                  | succ n75_158656 ih75_158656 =>
                    intro g158655 gl158656 bg158655 hm75_158656
                    refine G_iload 0 dr_cX17_findDepth_75 rfl ?_
                    refine G_aload_n 6 dr_cX17_findDepth_77 rfl ?_
                    refine Gw_callV (As := []) (gV_ok D I) (cp_12496_Code_size l hl0 D I P19518 F156995 q19521 q153821 q153822 p153823 p153824 hm153819 he157000) dr_cX17_findDepth_78 ⟨wr_10_160, wr_1_15, wr_9_131, by decide, rfl, (Nat.le_of_ble_eq_true rfl), (Nat.le_of_ble_eq_true rfl)⟩ wr_9_129 wr_9_130 hm153819 he157000 rfl (show 0 + 0 ≤ 0 by first | omega | decide) (show 0 + 0 ≤ 0 by first | omega | decide) (Nat.le_of_ble_eq_true rfl) (fun r158661 w158662 dc158658 ds158659 hp158660 => ?_) (fun _ _ _ _ _ z => z.elim)
                    obtain ⟨rfl, rfl, hdc, hds⟩ := hp158660
                    change G _ _ _ _ _ _ _ (.int p153824 :: _) _ _ _
                    refine G_widen (cs' := 0) (sl' := 0) (by omega) (by omega) ?_
                    refine G_icmp_ge 125 dr_cX17_findDepth_81 (by decide +kernel) (fun hc158663 => ?_) (fun hc158663 => ?_)
                    · have r158664 : p153824.toInt ≤ g158655.toInt := gC_le hc158663
                      have bg158655' : gB g158655 1 1000000 := ⟨by omega, by omega⟩
                      refine G_lload 1 dr_cX17_findDepth_125 rfl ?_
                      refine G_lconst 0 dr_cX17_findDepth_127 rfl ?_
                      refine G_lcmp dr_cX17_findDepth_128 (G_nam fun z158665 hz158665 => ?_)
                      have bz158665 : gB z158665 (-1) 1 := gB_cmp hz158665
                      refine G_if_ne 135 dr_cX17_findDepth_129 (by decide +kernel) (fun hc158666 => ?_) (fun hc158666 => ?_)
                      · have r158667 : z158665.toInt ≠ 0 := gj_neq hc158666 (show Int32.toInt 0 = 0 by decide)
                        have lhc158666 := gC_cmpN hz158665 hc158666
                        refine G_lload 1 dr_cX17_findDepth_135 rfl ?_
                        refine G_lconst 1 dr_cX17_findDepth_137 rfl ?_
                        refine G_iload 3 dr_cX17_findDepth_138 rfl ?_
                        refine G_lshl dr_cX17_findDepth_140 (G_namL fun u158668 hu158668 => ?_)
                        have qu158668 : lb_Q u158668 (g156994.toInt % 64 + 1) := lb_Qshl hu158668 (by omega)
                        refine G_lor dr_cX17_findDepth_141 (G_namL fun u158669 hu158669 => ?_)
                        have pmu158669 : rpop gl158656 ≤ rpop u158669 := rpop_or hu158669
                        refine G_lstore (L' := [(7, .long u158669), (9, .int g158655), (5, .long u157177), (4, .int g156994), (2, .long ol153853), (0, .ref q19520), (1, .ref q19521)]) dr_cX17_findDepth_142 (Nat.le_of_ble_eq_true rfl) rfl ?_
                        refine G_iconst 1 dr_cX17_findDepth_144 (by decide +kernel) ?_
                        refine G_istore (L' := [(9, .int 1), (7, .long u158669), (5, .long u157177), (4, .int g156994), (2, .long ol153853), (0, .ref q19520), (1, .ref q19521)]) dr_cX17_findDepth_145 (Nat.le_of_ble_eq_true rfl) rfl ?_
                        have hlp147_159367 : ∀ (n147_159367 : Nat) (g159365 : Int32) (gl159366 : Int64), gB g159365 0 1 → rpop gl159366 ≤ 64 → (64 - rpop gl159366) + ((g159365.toInt : Int)).toNat < n147_159367 → G (gV D I) l (gRm 5 112 0 0) (gMA (gV D I) (pt_19523_SpillForgeModel_findDepth D I γ el P19518 F19519 q19520 q19521) gNA 0 0) ky_19523_SpillForgeModel_findDepth 147 [(9, .int g159365), (7, .long gl159366), (5, .long u157177), (4, .int g156994), (2, .long ol153853), (0, .ref q19520), (1, .ref q19521)] [] (va_pl P19518 F156995) 0 0 := by
                          intro n147_159367
                          induction n147_159367 with
                          | zero => intro g159365 gl159366 bg159365 x159367 hm147_159367; exact absurd hm147_159367 (Nat.not_lt_zero _)
                          | succ n147_159367 ih147_159367 =>
                            intro g159365 gl159366 bg159365 x159367 hm147_159367
                            refine G_iload 0 dr_cX17_findDepth_147 rfl ?_
                            refine G_if_eq 297 dr_cX17_findDepth_149 (by decide +kernel) (fun hc159369 => ?_) (fun hc159369 => ?_)
                            · have r159370 : g159365.toInt = 0 := gj_eq hc159369 (show Int32.toInt 0 = 0 by decide)
                              have bg159365' : gB g159365 0 0 := ⟨by omega, by omega⟩
                              refine G_iconst 0 dr_cX17_findDepth_297 (by decide +kernel) ?_
                              refine G_istore (L' := [(10, .int 0), (9, .int g159365), (7, .long gl159366), (5, .long u157177), (4, .int g156994), (2, .long ol153853), (0, .ref q19520), (1, .ref q19521)]) dr_cX17_findDepth_298 (Nat.le_of_ble_eq_true rfl) rfl ?_
                              have hlp300_159455 : ∀ (n300_159455 : Nat) (F159453 : Nat → va_E) (g159452 : Int32), gB g159452 0 1000000 → RS D I P19518 F159453 γ el → rStr γ [] F19519 F159453 → ((1000001 : Int) - g159452.toInt).toNat < n300_159455 → G (gV D I) l (gRm 5 112 0 0) (gMA (gV D I) (pt_19523_SpillForgeModel_findDepth D I γ el P19518 F19519 q19520 q19521) gNA 0 0) ky_19523_SpillForgeModel_findDepth 300 [(10, .int g159452), (9, .int g159365), (7, .long gl159366), (5, .long u157177), (4, .int g156994), (2, .long ol153853), (0, .ref q19520), (1, .ref q19521)] [] (va_pl P19518 F159453) 0 0 := by
                                intro n300_159455
                                induction n300_159455 with
                                | zero => intro F159453 g159452 bg159452 hT159454 hs159455 hm300_159455; exact absurd hm300_159455 (Nat.not_lt_zero _)
                                | succ n300_159455 ih300_159455 =>
                                  intro F159453 g159452 bg159452 hT159454 hs159455 hm300_159455
                                  have hs159457 : rStr γ [] F156995 F159453 := fun b h0 hb hw => (hs159455 b h0 hb hw).trans (hs156997 b h0 hb hw).symm
                                  have he159458 : F159453 q19521 = .inr (18, [.ref q153821, .ref q153822, .int p153823, .int p153824]) := (hs159457 q19521 (rT0 htq19521 (by decide)) (rT1 htq19521 (by decide)) (rT2 htq19521 (by decide))).trans he157000
                                  have hs159459 : rStr γ [] F19519 F159453 := rStr_tr hs156997 hs159457
                                  refine G_iload 0 dr_cX17_findDepth_300 rfl ?_
                                  refine G_aload_n 7 dr_cX17_findDepth_302 rfl ?_
                                  refine Gw_callV (As := []) (gV_ok D I) (cp_12496_Code_size l hl0 D I P19518 F159453 q19521 q153821 q153822 p153823 p153824 hm153819 he159458) dr_cX17_findDepth_303 ⟨wr_10_160, wr_1_15, wr_9_131, by decide, rfl, (Nat.le_of_ble_eq_true rfl), (Nat.le_of_ble_eq_true rfl)⟩ wr_9_129 wr_9_130 hm153819 he159458 rfl (show 0 + 0 ≤ 0 by first | omega | decide) (show 0 + 0 ≤ 0 by first | omega | decide) (Nat.le_of_ble_eq_true rfl) (fun r159463 w159464 dc159460 ds159461 hp159462 => ?_) (fun _ _ _ _ _ z => z.elim)
                                  obtain ⟨rfl, rfl, hdc, hds⟩ := hp159462
                                  change G _ _ _ _ _ _ _ (.int p153824 :: _) _ _ _
                                  refine G_widen (cs' := 0) (sl' := 0) (by omega) (by omega) ?_
                                  refine G_icmp_ge 333 dr_cX17_findDepth_306 (by decide +kernel) (fun hc159465 => ?_) (fun hc159465 => ?_)
                                  · have r159466 : p153824.toInt ≤ g159452.toInt := gC_le hc159465
                                    have bg159452' : gB g159452 1 1000000 := ⟨by omega, by omega⟩
                                    obtain ⟨z159467, hz159467⟩ : ∃ z : Int32, z = g156994 + Int32.ofInt 1 := ⟨_, rfl⟩
                                    have ez159467 : z159467.toInt = g156994.toInt + 1 := gI_inc hz159467 (by decide) bg156994' (by decide) (by decide)
                                    have bz159467 : gB z159467 1 1000000 := ⟨by omega, by omega⟩
                                    refine G_iinc (L' := [(4, .int z159467), (10, .int g159452), (9, .int g159365), (7, .long gl159366), (5, .long u157177), (2, .long ol153853), (0, .ref q19520), (1, .ref q19521)]) z159467 4 dr_cX17_findDepth_333 rfl hz159467.symm (Nat.le_of_ble_eq_true rfl) rfl ?_
                                    refine G_goto 32 dr_cX17_findDepth_336 (by decide +kernel) ?_
                                    refine G_lv (L' := [(4, .int z159467), (2, .long ol153853), (0, .ref q19520), (1, .ref q19521)]) [0, 5, 6, 7] rfl ?_
                                    exact ih32_156997 F159453 z159467 (gB_w bz159467 (by decide) (by decide)) hT159454 hs159455 (by omega)
                                  · have r159468 : g159452.toInt < p153824.toInt := gC_nle hc159465
                                    have bg159452' : gB g159452 0 999999 := ⟨by omega, by omega⟩
                                    refine G_aload_n 6 dr_cX17_findDepth_309 rfl ?_
                                    have hm159469 : q19520 ∈ P19518 := RS_m hT159454 htq19520 (by decide)
                                    obtain ⟨q159471, q159472, p159473, p159474, p159475, p159476, p159477, p159478, p159479, p159480, p159481, p159482, p159483, p159484, p159485, p159486, p159487, he159470, hB159514, ht159488, ht159489, ht159490, ht159491, ht159492, ht159493, ht159494, ht159495, ht159496, ht159497, ht159498, ht159499, ht159500, ht159501, ht159502, ht159503, ht159504, ht159505, ht159506, ht159507, ht159508, ht159509, ht159510, ht159511, hB159515⟩ := show rk_10 γ (F159453 q19520) from RS_o hT159454 htq19520
                                    refine Gp_get 4 hm159469 he159470 dr_cX17_findDepth_310 (gk_X17 D I) (Nat.le_of_ble_eq_true rfl) wr_7_78 rfl ?_
                                    refine G_iload 0 dr_cX17_findDepth_313 rfl ?_
                                    refine G_dup2_11 dr_cX17_findDepth_315 rfl rfl ?_
                                    have hm159516 : (γ 9 4) ∈ P19518 := RS_m hT159454 ht159494 (by decide)
                                    obtain ⟨f159518, he159517⟩ := show rk_16 I (F159453 (γ 9 4)) from RS_o hT159454 ht159494
                                    refine Gp_iald 0 hm159516 he159517 dr_cX17_findDepth_316 rfl (gB_inr (by omega) (by omega)) (G_nam fun z159519 hz159519 => ?_)
                                    have bz159519 : gB z159519 (-2147483648) 2147483647 := gB_any z159519
                                    refine G_lload 2 dr_cX17_findDepth_317 rfl ?_
                                    refine G_iload 0 dr_cX17_findDepth_319 rfl ?_
                                    refine G_lushr dr_cX17_findDepth_321 (G_namL fun u159520 hu159520 => ?_)
                                    refine G_lconst 1 dr_cX17_findDepth_322 rfl ?_
                                    refine G_land dr_cX17_findDepth_323 (G_namL fun u159521 hu159521 => ?_)
                                    refine G_l2i dr_cX17_findDepth_324 (G_nam fun z159522 hz159522 => ?_)
                                    have bz159522 : gB z159522 (-2147483648) 2147483647 := gB_any z159522
                                    refine G_iadd dr_cX17_findDepth_325 (G_nam fun z159523 hz159523 => ?_)
                                    have bz159523 : gB z159523 (-2147483648) 2147483647 := gB_any z159523
                                    refine Gp_iast 0 hm159516 he159517 dr_cX17_findDepth_326 rfl (gB_inr (by omega) (by omega)) (fun F159524 e159525 n159526 => ?_)
                                    obtain ⟨f159527, hf159527⟩ : ∃ z, z = upd f159518 g159452.toNatClampNeg z159523 := ⟨_, rfl⟩
                                    rw [← hf159527] at e159525
                                    have he159528 : F159524 q19521 = .inr (18, [.ref q153821, .ref q153822, .int p153823, .int p153824]) := (n159526 q19521 (rn_oa he159458 he159517)).trans he159458
                                    have he159529 : F159524 q19520 = .inr (22, [.ref (γ 9 0), .ref (γ 9 1), .ref (γ 9 2), .ref (γ 9 3), .ref (γ 9 4), .ref (γ 9 5), .ref (γ 9 6), .ref (γ 9 7), .ref (γ 9 8), .int p159473, .int p159474, .int p159475, .int p159476, .int p159477, .int p159478, .ref (γ 9 15), .ref (γ 9 16), .ref (γ 9 17), .ref (γ 9 18), .ref (γ 9 19), .ref (γ 9 20), .ref (γ 9 21), .ref (γ 9 22), .int p159479, .int p159480, .int p159481, .int p159482, .int p159483, .ref q159471, .ref (γ 9 29), .int p159484, .ref (γ 9 31), .int p159485, .int p159486, .int p159487, .ref q159472]) := (n159526 q19520 (rn_oa he159470 he159517)).trans he159470
                                    have he159530 : F159524 (γ 9 4) = .inl (I .int, 40, .inl f159527) := e159525
                                    have hs159531 : rStr γ [] F19519 F159524 := rStr_put hs159455 n159526 ht159494 (by decide)
                                    obtain ⟨z159532, hz159532⟩ : ∃ z : Int32, z = g159452 + Int32.ofInt 1 := ⟨_, rfl⟩
                                    have ez159532 : z159532.toInt = g159452.toInt + 1 := gI_inc hz159532 (by decide) bg159452' (by decide) (by decide)
                                    have bz159532 : gB z159532 1 1000000 := ⟨by omega, by omega⟩
                                    refine G_iinc (L' := [(10, .int z159532), (9, .int g159365), (7, .long gl159366), (5, .long u157177), (4, .int g156994), (2, .long ol153853), (0, .ref q19520), (1, .ref q19521)]) z159532 0 dr_cX17_findDepth_327 rfl hz159532.symm (Nat.le_of_ble_eq_true rfl) rfl ?_
                                    refine G_goto 300 dr_cX17_findDepth_330 (by decide +kernel) ?_
                                    have hT159533 : RS D I P19518 F159524 γ el := RS_set hT159454 n159526 ht159494 (by decide) ⟨f159527, he159530⟩
                                    exact ih300_159455 F159524 z159532 (gB_w bz159532 (by decide) (by decide)) hT159533 hs159531 (by omega)
                              exact hlp300_159455 (((1000001 : Int) - 0).toNat + 1) F156995 0 (gB_w (gBl (show Int32.toInt 0 = 0 by decide)) (by decide) (by decide)) hT156996 hs156997 (Nat.lt_succ_self _)
                            · have r159534 : g159365.toInt ≠ 0 := gj_neq hc159369 (show Int32.toInt 0 = 0 by decide)
                              have bg159365' : gB g159365 1 1 := ⟨by omega, by omega⟩
                              refine G_iconst 0 dr_cX17_findDepth_152 (by decide +kernel) ?_
                              refine G_istore (L' := [(9, .int 0), (7, .long gl159366), (5, .long u157177), (4, .int g156994), (2, .long ol153853), (0, .ref q19520), (1, .ref q19521)]) dr_cX17_findDepth_153 (Nat.le_of_ble_eq_true rfl) rfl ?_
                              refine G_iconst 0 dr_cX17_findDepth_155 (by decide +kernel) ?_
                              refine G_istore (L' := [(10, .int 0), (9, .int 0), (7, .long gl159366), (5, .long u157177), (4, .int g156994), (2, .long ol153853), (0, .ref q19520), (1, .ref q19521)]) dr_cX17_findDepth_156 (Nat.le_of_ble_eq_true rfl) rfl ?_
                              have hlp158_159801 : ∀ (n158_159801 : Nat) (g159797 : Int32) (g159798 : Int32) (gl159799 : Int64), gB g159797 0 1000000 → gB g159798 0 1 → rpop gl159799 ≤ 64 → rpop gl159366 + ((g159798.toInt : Int)).toNat ≤ rpop gl159799 → ((1000001 : Int) - g159797.toInt).toNat < n158_159801 → G (gV D I) l (gRm 5 112 0 0) (gMA (gV D I) (pt_19523_SpillForgeModel_findDepth D I γ el P19518 F19519 q19520 q19521) gNA 0 0) ky_19523_SpillForgeModel_findDepth 158 [(10, .int g159797), (9, .int g159798), (7, .long gl159799), (5, .long u157177), (4, .int g156994), (2, .long ol153853), (0, .ref q19520), (1, .ref q19521)] [] (va_pl P19518 F156995) 0 0 := by
                                intro n158_159801
                                induction n158_159801 with
                                | zero => intro g159797 g159798 gl159799 bg159797 bg159798 x159800 x159801 hm158_159801; exact absurd hm158_159801 (Nat.not_lt_zero _)
                                | succ n158_159801 ih158_159801 =>
                                  intro g159797 g159798 gl159799 bg159797 bg159798 x159800 x159801 hm158_159801
                                  refine G_iload 0 dr_cX17_findDepth_158 rfl ?_
                                  refine G_aload_n 7 dr_cX17_findDepth_160 rfl ?_
                                  refine Gw_callV (As := []) (gV_ok D I) (cp_12496_Code_size l hl0 D I P19518 F156995 q19521 q153821 q153822 p153823 p153824 hm153819 he157000) dr_cX17_findDepth_161 ⟨wr_10_160, wr_1_15, wr_9_131, by decide, rfl, (Nat.le_of_ble_eq_true rfl), (Nat.le_of_ble_eq_true rfl)⟩ wr_9_129 wr_9_130 hm153819 he157000 rfl (show 0 + 0 ≤ 0 by first | omega | decide) (show 0 + 0 ≤ 0 by first | omega | decide) (Nat.le_of_ble_eq_true rfl) (fun r159806 w159807 dc159803 ds159804 hp159805 => ?_) (fun _ _ _ _ _ z => z.elim)
                                  obtain ⟨rfl, rfl, hdc, hds⟩ := hp159805
                                  change G _ _ _ _ _ _ _ (.int p153824 :: _) _ _ _
                                  refine G_widen (cs' := 0) (sl' := 0) (by omega) (by omega) ?_
                                  refine G_icmp_ge 294 dr_cX17_findDepth_164 (by decide +kernel) (fun hc159808 => ?_) (fun hc159808 => ?_)
                                  · have r159809 : p153824.toInt ≤ g159797.toInt := gC_le hc159808
                                    have bg159797' : gB g159797 1 1000000 := ⟨by omega, by omega⟩
                                    refine G_goto 147 dr_cX17_findDepth_294 (by decide +kernel) ?_
                                    refine G_lv (L' := [(9, .int g159798), (7, .long gl159799), (5, .long u157177), (4, .int g156994), (2, .long ol153853), (0, .ref q19520), (1, .ref q19521)]) [1, 2, 3, 4, 5, 6, 7] rfl ?_
                                    exact ih147_159367 g159798 gl159799 bg159798 (rpop_le gl159799) (by omega)
                                  · have r159810 : g159797.toInt < p153824.toInt := gC_nle hc159808
                                    have bg159797' : gB g159797 0 999999 := ⟨by omega, by omega⟩
                                    refine G_lload 2 dr_cX17_findDepth_167 rfl ?_
                                    refine G_iload 0 dr_cX17_findDepth_169 rfl ?_
                                    refine G_lushr dr_cX17_findDepth_171 (G_namL fun u159811 hu159811 => ?_)
                                    refine G_lconst 1 dr_cX17_findDepth_172 rfl ?_
                                    refine G_land dr_cX17_findDepth_173 (G_namL fun u159812 hu159812 => ?_)
                                    refine G_lconst 0 dr_cX17_findDepth_174 rfl ?_
                                    refine G_lcmp dr_cX17_findDepth_175 (G_nam fun z159813 hz159813 => ?_)
                                    have bz159813 : gB z159813 (-1) 1 := gB_cmp hz159813
                                    refine G_if_ne 288 dr_cX17_findDepth_176 (by decide +kernel) (fun hc159814 => ?_) (fun hc159814 => ?_)
                                    · have r159815 : z159813.toInt ≠ 0 := gj_neq hc159814 (show Int32.toInt 0 = 0 by decide)
                                      have lhc159814 := gC_cmpN hz159813 hc159814
                                      obtain ⟨z159816, hz159816⟩ : ∃ z : Int32, z = g159797 + Int32.ofInt 1 := ⟨_, rfl⟩
                                      have ez159816 : z159816.toInt = g159797.toInt + 1 := gI_inc hz159816 (by decide) bg159797' (by decide) (by decide)
                                      have bz159816 : gB z159816 1 1000000 := ⟨by omega, by omega⟩
                                      refine G_iinc (L' := [(10, .int z159816), (9, .int g159798), (7, .long gl159799), (5, .long u157177), (4, .int g156994), (2, .long ol153853), (0, .ref q19520), (1, .ref q19521)]) z159816 0 dr_cX17_findDepth_288 rfl hz159816.symm (Nat.le_of_ble_eq_true rfl) rfl ?_
                                      refine G_goto 158 dr_cX17_findDepth_291 (by decide +kernel) ?_
                                      exact ih158_159801 z159816 g159798 gl159799 (gB_w bz159816 (by decide) (by decide)) bg159798 (rpop_le gl159799) (by omega) (by omega)
                                    · have r159817 : z159813.toInt = 0 := gj_eq hc159814 (show Int32.toInt 0 = 0 by decide)
                                      have bz159813' : gB z159813 0 0 := ⟨by omega, by omega⟩
                                      have lhc159814 := gC_cmpE hz159813 hc159814
                                      have zhc159814 := rbit_0 hu159811 hu159812 lhc159814 (by omega) (by omega)
                                      refine G_lload_n 5 dr_cX17_findDepth_179 rfl ?_
                                      refine G_iload 0 dr_cX17_findDepth_180 rfl ?_
                                      refine G_lushr dr_cX17_findDepth_182 (G_namL fun u159818 hu159818 => ?_)
                                      refine G_lconst 1 dr_cX17_findDepth_183 rfl ?_
                                      refine G_land dr_cX17_findDepth_184 (G_namL fun u159819 hu159819 => ?_)
                                      refine G_lconst 0 dr_cX17_findDepth_185 rfl ?_
                                      refine G_lcmp dr_cX17_findDepth_186 (G_nam fun z159820 hz159820 => ?_)
                                      have bz159820 : gB z159820 (-1) 1 := gB_cmp hz159820
                                      refine G_if_ne 193 dr_cX17_findDepth_187 (by decide +kernel) (fun hc159821 => ?_) (fun hc159821 => ?_)
                                      · have r159822 : z159820.toInt ≠ 0 := gj_neq hc159821 (show Int32.toInt 0 = 0 by decide)
                                        have lhc159821 := gC_cmpN hz159820 hc159821
                                        refine G_iconst 0 dr_cX17_findDepth_193 (by decide +kernel) ?_
                                        refine G_istore (L' := [(11, .int 0), (10, .int g159797), (9, .int g159798), (7, .long gl159799), (5, .long u157177), (4, .int g156994), (2, .long ol153853), (0, .ref q19520), (1, .ref q19521)]) dr_cX17_findDepth_194 (Nat.le_of_ble_eq_true rfl) rfl ?_
                                        refine G_iconst 0 dr_cX17_findDepth_196 (by decide +kernel) ?_
                                        refine G_istore (L' := [(12, .int 0), (11, .int 0), (10, .int g159797), (9, .int g159798), (7, .long gl159799), (5, .long u157177), (4, .int g156994), (2, .long ol153853), (0, .ref q19520), (1, .ref q19521)]) dr_cX17_findDepth_197 (Nat.le_of_ble_eq_true rfl) rfl ?_
                                        have hlp199_159942 : ∀ (n199_159942 : Nat) (g159941 : Int32) (g159942 : Int32), gB g159941 0 2 → gB g159942 0 1 → ((3 : Int) - g159941.toInt).toNat < n199_159942 → G (gV D I) l (gRm 5 112 0 0) (gMA (gV D I) (pt_19523_SpillForgeModel_findDepth D I γ el P19518 F19519 q19520 q19521) gNA 0 0) ky_19523_SpillForgeModel_findDepth 199 [(12, .int g159941), (11, .int g159942), (10, .int g159797), (9, .int g159798), (7, .long gl159799), (5, .long u157177), (4, .int g156994), (2, .long ol153853), (0, .ref q19520), (1, .ref q19521)] [] (va_pl P19518 F156995) 0 0 := by
                                          intro n199_159942
                                          induction n199_159942 with
                                          | zero => intro g159941 g159942 bg159941 bg159942 hm199_159942; exact absurd hm199_159942 (Nat.not_lt_zero _)
                                          | succ n199_159942 ih199_159942 =>
                                            intro g159941 g159942 bg159941 bg159942 hm199_159942
                                            refine G_iload 0 dr_cX17_findDepth_199 rfl ?_
                                            refine G_aload_n 9 dr_cX17_findDepth_201 rfl ?_
                                            refine G_iload 2 dr_cX17_findDepth_202 rfl ?_
                                            have hm159944 : q153821 ∈ P19518 := RS_m hT156996 ht153825 (by decide)
                                            obtain ⟨⟨p159946, p159947, q159948, he159945, r159949, r159950, r159951, r159953⟩, r159952⟩ := show rk_4 D I γ el F156995 q153821 from RS_o hT156996 ht153825
                                            have bp159946 := gB_any p159946
                                            have bp159947 : gB p159947 0 1000000 := ⟨by omega, by omega⟩
                                            obtain ⟨r159954, r159955, n159962, f159963, r159956, r159957, r159958, r159959, r159960, r159961⟩ := rLC_n r159951 (by omega)
                                            have hm159964 : q159948 ∈ P19518 := RS_m hT156996 r159954 (by decide)
                                            obtain ⟨q159965, hx159966⟩ : ∃ x, x = el q153821 g159797.toInt.toNat := ⟨_, rfl⟩
                                            have hx159967 : f159963 g159797.toNatClampNeg = some q159965 := (r159960 _ (show g159797.toInt.toNat < γ 2 q153821 by omega)).trans (by rw [hx159966])
                                            have ht159970 : rKd γ q159965 2 := by rw [hx159966]; exact (r153836 _ (by omega)).resolve_right (fun z => absurd z.1 (by omega))
                                            have ht159971 : rFm γ q159965 q153821 := by rw [hx159966]; exact (r159952 _ (show g159797.toInt.toNat < γ 2 q153821 by omega)).2.1
                                            have hm159972 : q159965 ∈ P19518 := RS_m hT156996 ht159970 (by decide)
                                            obtain ⟨q159974, q159975, p159976, p159977, he159973, ht159984, ht159978, ht159979, ht159980, ht159981, ht159982, bp159976, bp159977, r159983, r159985, r159986⟩ := show rk_2 γ q159965 (F156995 q159965) from RS_o hT156996 ht159970
                                            refine Gw_callV (As := [.int g159797]) (gV_ok D I) (cp_7737_Code_get l hl0 D I P19518 F156995 q19521 q153821 q159948 g159797 q153822 p153823 p153824 p159946 p159947 f159963 n159962 q159965 q159974 q159975 p159976 p159977 hm153819 hm159944 hm159964 hm159972 he157000 he159945 r159956 he159973 (gB_w bg159797' (by decide) (by decide)) (gB_w bp159947 (by decide) (by decide)) (by omega) (by omega) (by assumption) (by omega)) dr_cX17_findDepth_204 ⟨wr_10_161, wr_1_15, wr_10_141, by decide, rfl, (Nat.le_of_ble_eq_true rfl), (Nat.le_of_ble_eq_true rfl)⟩ wr_10_139 wr_10_140 hm153819 he157000 rfl (show 0 + 0 ≤ 0 by first | omega | decide) (show 0 + 0 ≤ 0 by first | omega | decide) (Nat.le_of_ble_eq_true rfl) (fun r159990 w159991 dc159987 ds159988 hp159989 => ?_) (fun _ _ _ _ _ z => z.elim)
                                            obtain ⟨rfl, rfl, hdc, hds⟩ := hp159989
                                            change G _ _ _ _ _ _ _ (.ref q159965 :: _) _ _ _
                                            refine G_widen (cs' := 0) (sl' := 0) (by omega) (by omega) ?_
                                            have hm159992 : q159975 ∈ P19518 := RS_m hT156996 ht159980 (by decide)
                                            obtain ⟨p159994, p159995, p159996, p159997, p159998, p159999, p160000, he159993, bp159994, bp159995, bp159998, bp159999, bp160000, r160001, r160002, r160003, r160004, r160005⟩ := show rk_1 γ q159975 (F156995 q159975) from RS_o hT156996 ht159980
                                            have bp159996 := gB_any p159996
                                            have bp159997 := gB_any p159997
                                            refine Gw_callV (As := []) (gV_ok D I) (cp_1809_Block_ways l hl0 D I P19518 F156995 q159965 q159975 q159974 p159976 p159977 p159994 p159995 p159996 p159997 p159998 p159999 p160000 hm159972 hm159992 he159973 he159993 bp159976 bp159977 bp159994 bp159995 bp159998 bp159999 bp160000) dr_cX17_findDepth_207 ⟨wr_10_166, wr_1_38, wr_10_169, by decide, rfl, (Nat.le_of_ble_eq_true rfl), (Nat.le_of_ble_eq_true rfl)⟩ wr_10_167 wr_10_168 hm159972 he159973 rfl (show 0 + 0 ≤ 0 by first | omega | decide) (show 0 + 0 ≤ 0 by first | omega | decide) (Nat.le_of_ble_eq_true rfl) (fun r160009 w160010 dc160006 ds160007 hp160008 => ?_) (fun _ _ _ _ _ z => z.elim)
                                            obtain ⟨o160011, rfl, rfl, hdc, hds, bo160011⟩ := hp160008
                                            change G _ _ _ _ _ _ _ (.int o160011 :: _) _ _ _
                                            refine G_widen (cs' := 0) (sl' := 0) (by omega) (by omega) ?_
                                            refine G_icmp_ge 268 dr_cX17_findDepth_210 (by decide +kernel) (fun hc160012 => ?_) (fun hc160012 => ?_)
                                            · have r160013 : o160011.toInt ≤ g159941.toInt := gC_le hc160012
                                              refine G_iload 1 dr_cX17_findDepth_268 rfl ?_
                                              refine G_if_ne 276 dr_cX17_findDepth_270 (by decide +kernel) (fun hc160014 => ?_) (fun hc160014 => ?_)
                                              · have r160015 : g159942.toInt ≠ 0 := gj_neq hc160014 (show Int32.toInt 0 = 0 by decide)
                                                have bg159942' : gB g159942 1 1 := ⟨by omega, by omega⟩
                                                refine G_lload 4 dr_cX17_findDepth_276 rfl ?_
                                                refine G_lconst 1 dr_cX17_findDepth_278 rfl ?_
                                                refine G_iload 2 dr_cX17_findDepth_279 rfl ?_
                                                refine G_lshl dr_cX17_findDepth_281 (G_namL fun u160016 hu160016 => ?_)
                                                have qu160016 : lb_Q u160016 (g159797.toInt % 64 + 1) := lb_Qshl hu160016 (by omega)
                                                refine G_lor dr_cX17_findDepth_282 (G_namL fun u160017 hu160017 => ?_)
                                                have pmu160017 : rpop gl159799 ≤ rpop u160017 := rpop_or hu160017
                                                have pnu160017 : rpop gl159799 + 1 ≤ rpop u160017 := rpop_new hu160017 hu160016 (by omega) (by omega) zhc159814
                                                refine G_lstore (L' := [(7, .long u160017), (12, .int g159941), (11, .int g159942), (10, .int g159797), (9, .int g159798), (5, .long u157177), (4, .int g156994), (2, .long ol153853), (0, .ref q19520), (1, .ref q19521)]) dr_cX17_findDepth_283 (Nat.le_of_ble_eq_true rfl) rfl ?_
                                                refine G_iconst 1 dr_cX17_findDepth_285 (by decide +kernel) ?_
                                                refine G_istore (L' := [(9, .int 1), (7, .long u160017), (12, .int g159941), (11, .int g159942), (10, .int g159797), (5, .long u157177), (4, .int g156994), (2, .long ol153853), (0, .ref q19520), (1, .ref q19521)]) dr_cX17_findDepth_286 (Nat.le_of_ble_eq_true rfl) rfl ?_
                                                obtain ⟨z160018, hz160018⟩ : ∃ z : Int32, z = g159797 + Int32.ofInt 1 := ⟨_, rfl⟩
                                                have ez160018 : z160018.toInt = g159797.toInt + 1 := gI_inc hz160018 (by decide) bg159797' (by decide) (by decide)
                                                have bz160018 : gB z160018 1 1000000 := ⟨by omega, by omega⟩
                                                refine G_iinc (L' := [(10, .int z160018), (9, .int 1), (7, .long u160017), (12, .int g159941), (11, .int g159942), (5, .long u157177), (4, .int g156994), (2, .long ol153853), (0, .ref q19520), (1, .ref q19521)]) z160018 4 dr_cX17_findDepth_288 rfl hz160018.symm (Nat.le_of_ble_eq_true rfl) rfl ?_
                                                refine G_goto 158 dr_cX17_findDepth_291 (by decide +kernel) ?_
                                                refine G_lv (L' := [(10, .int z160018), (9, .int 1), (7, .long u160017), (5, .long u157177), (4, .int g156994), (2, .long ol153853), (0, .ref q19520), (1, .ref q19521)]) [0, 1, 2, 5, 6, 7, 8, 9] rfl ?_
                                                exact ih158_159801 z160018 1 u160017 (gB_w bz160018 (by decide) (by decide)) (gB_w (gBl (show Int32.toInt 1 = 1 by decide)) (by decide) (by decide)) (rpop_le u160017) (by have qa0 : Int32.toInt 1 = 1 := (by decide); omega) (by have qa0 : Int32.toInt 1 = 1 := (by decide); omega)
                                              · have r160019 : g159942.toInt = 0 := gj_eq hc160014 (show Int32.toInt 0 = 0 by decide)
                                                have bg159942' : gB g159942 0 0 := ⟨by omega, by omega⟩
                                                refine G_goto 288 dr_cX17_findDepth_273 (by decide +kernel) ?_
                                                obtain ⟨z160020, hz160020⟩ : ∃ z : Int32, z = g159797 + Int32.ofInt 1 := ⟨_, rfl⟩
                                                have ez160020 : z160020.toInt = g159797.toInt + 1 := gI_inc hz160020 (by decide) bg159797' (by decide) (by decide)
                                                have bz160020 : gB z160020 1 1000000 := ⟨by omega, by omega⟩
                                                refine G_iinc (L' := [(10, .int z160020), (12, .int g159941), (11, .int g159942), (9, .int g159798), (7, .long gl159799), (5, .long u157177), (4, .int g156994), (2, .long ol153853), (0, .ref q19520), (1, .ref q19521)]) z160020 2 dr_cX17_findDepth_288 rfl hz160020.symm (Nat.le_of_ble_eq_true rfl) rfl ?_
                                                refine G_goto 158 dr_cX17_findDepth_291 (by decide +kernel) ?_
                                                refine G_lv (L' := [(10, .int z160020), (9, .int g159798), (7, .long gl159799), (5, .long u157177), (4, .int g156994), (2, .long ol153853), (0, .ref q19520), (1, .ref q19521)]) [0, 3, 4, 5, 6, 7, 8, 9] rfl ?_
                                                exact ih158_159801 z160020 g159798 gl159799 (gB_w bz160020 (by decide) (by decide)) bg159798 (rpop_le gl159799) (by omega) (by omega)
                                            · have r160021 : g159941.toInt < o160011.toInt := gC_nle hc160012
                                              have bg159941' : gB g159941 0 1 := ⟨by omega, by omega⟩
                                              have bo160011' : gB o160011 1 2 := ⟨by omega, by omega⟩
                                              refine G_iload 1 dr_cX17_findDepth_213 rfl ?_
                                              refine G_if_ne 255 dr_cX17_findDepth_215 (by decide +kernel) (fun hc160022 => ?_) (fun hc160022 => ?_)
                                              · have r160023 : g159942.toInt ≠ 0 := gj_neq hc160022 (show Int32.toInt 0 = 0 by decide)
                                                have bg159942' : gB g159942 1 1 := ⟨by omega, by omega⟩
                                                refine G_iconst 1 dr_cX17_findDepth_255 (by decide +kernel) ?_
                                                refine G_goto 260 dr_cX17_findDepth_256 (by decide +kernel) ?_
                                                refine G_istore (L' := [(11, .int 1), (12, .int g159941), (10, .int g159797), (9, .int g159798), (7, .long gl159799), (5, .long u157177), (4, .int g156994), (2, .long ol153853), (0, .ref q19520), (1, .ref q19521)]) dr_cX17_findDepth_260 (Nat.le_of_ble_eq_true rfl) rfl ?_
                                                obtain ⟨z160024, hz160024⟩ : ∃ z : Int32, z = g159941 + Int32.ofInt 1 := ⟨_, rfl⟩
                                                have ez160024 : z160024.toInt = g159941.toInt + 1 := gI_inc hz160024 (by decide) bg159941' (by decide) (by decide)
                                                have bz160024 : gB z160024 1 2 := ⟨by omega, by omega⟩
                                                refine G_iinc (L' := [(12, .int z160024), (11, .int 1), (10, .int g159797), (9, .int g159798), (7, .long gl159799), (5, .long u157177), (4, .int g156994), (2, .long ol153853), (0, .ref q19520), (1, .ref q19521)]) z160024 1 dr_cX17_findDepth_262 rfl hz160024.symm (Nat.le_of_ble_eq_true rfl) rfl ?_
                                                refine G_goto 199 dr_cX17_findDepth_265 (by decide +kernel) ?_
                                                exact ih199_159942 z160024 1 (gB_w bz160024 (by decide) (by decide)) (gB_w (gBl (show Int32.toInt 1 = 1 by decide)) (by decide) (by decide)) (by have qa0 : Int32.toInt 1 = 1 := (by decide); omega)
                                              · have r160025 : g159942.toInt = 0 := gj_eq hc160022 (show Int32.toInt 0 = 0 by decide)
                                                have bg159942' : gB g159942 0 0 := ⟨by omega, by omega⟩
                                                refine G_aload_n 9 dr_cX17_findDepth_218 rfl ?_
                                                refine G_iload 2 dr_cX17_findDepth_219 rfl ?_
                                                refine Gw_callV (As := [.int g159797]) (gV_ok D I) (cp_7737_Code_get l hl0 D I P19518 F156995 q19521 q153821 q159948 g159797 q153822 p153823 p153824 p159946 p159947 f159963 n159962 q159965 q159974 q159975 p159976 p159977 hm153819 hm159944 hm159964 hm159972 he157000 he159945 r159956 he159973 (gB_w bg159797' (by decide) (by decide)) (gB_w bp159947 (by decide) (by decide)) (by omega) (by omega) (by assumption) (by omega)) dr_cX17_findDepth_221 ⟨wr_10_161, wr_1_15, wr_10_141, by decide, rfl, (Nat.le_of_ble_eq_true rfl), (Nat.le_of_ble_eq_true rfl)⟩ wr_10_139 wr_10_140 hm153819 he157000 rfl (show 0 + 0 ≤ 0 by first | omega | decide) (show 0 + 0 ≤ 0 by first | omega | decide) (Nat.le_of_ble_eq_true rfl) (fun r160029 w160030 dc160026 ds160027 hp160028 => ?_) (fun _ _ _ _ _ z => z.elim)
                                                obtain ⟨rfl, rfl, hdc, hds⟩ := hp160028
                                                change G _ _ _ _ _ _ _ (.ref q159965 :: _) _ _ _
                                                refine G_widen (cs' := 0) (sl' := 0) (by omega) (by omega) ?_
                                                refine G_iload 0 dr_cX17_findDepth_224 rfl ?_
                                                refine Gw_callV (As := [.int g159941]) (gV_ok D I) (cp_5050_Block_way l hl0 D I P19518 F156995 q159965 q159975 g159941 q159974 p159976 p159977 p159994 p159995 p159996 p159997 p159998 p159999 p160000 hm159972 hm159992 he159973 he159993 bp159976 bp159977 bp159994 bp159995 bp159998 bp159999 bp160000) dr_cX17_findDepth_226 ⟨wr_10_170, wr_1_38, wr_10_173, by decide, rfl, (Nat.le_of_ble_eq_true rfl), (Nat.le_of_ble_eq_true rfl)⟩ wr_10_171 wr_10_172 hm159972 he159973 rfl (show 0 + 0 ≤ 0 by first | omega | decide) (show 0 + 0 ≤ 0 by first | omega | decide) (Nat.le_of_ble_eq_true rfl) (fun r160034 w160035 dc160031 ds160032 hp160033 => ?_) (fun _ _ _ _ _ z => z.elim)
                                                obtain ⟨o160036, rfl, rfl, hdc, hds, bo160036⟩ := hp160033
                                                change G _ _ _ _ _ _ _ (.int o160036 :: _) _ _ _
                                                refine G_widen (cs' := 0) (sl' := 0) (by omega) (by omega) ?_
                                                refine G_iload 6 dr_cX17_findDepth_229 rfl ?_
                                                refine G_icmp_eq 259 dr_cX17_findDepth_231 (by decide +kernel) (fun hc160037 => ?_) (fun hc160037 => ?_)
                                                · have r160038 : o160036.toInt = g156994.toInt := gC_eq hc160037
                                                  have bg156994'' : gB g156994 0 39 := ⟨by omega, by omega⟩
                                                  refine G_iconst 0 dr_cX17_findDepth_259 (by decide +kernel) ?_
                                                  refine G_istore (L' := [(11, .int 0), (12, .int g159941), (10, .int g159797), (9, .int g159798), (7, .long gl159799), (5, .long u157177), (4, .int g156994), (2, .long ol153853), (0, .ref q19520), (1, .ref q19521)]) dr_cX17_findDepth_260 (Nat.le_of_ble_eq_true rfl) rfl ?_
                                                  obtain ⟨z160039, hz160039⟩ : ∃ z : Int32, z = g159941 + Int32.ofInt 1 := ⟨_, rfl⟩
                                                  have ez160039 : z160039.toInt = g159941.toInt + 1 := gI_inc hz160039 (by decide) bg159941' (by decide) (by decide)
                                                  have bz160039 : gB z160039 1 2 := ⟨by omega, by omega⟩
                                                  refine G_iinc (L' := [(12, .int z160039), (11, .int 0), (10, .int g159797), (9, .int g159798), (7, .long gl159799), (5, .long u157177), (4, .int g156994), (2, .long ol153853), (0, .ref q19520), (1, .ref q19521)]) z160039 1 dr_cX17_findDepth_262 rfl hz160039.symm (Nat.le_of_ble_eq_true rfl) rfl ?_
                                                  refine G_goto 199 dr_cX17_findDepth_265 (by decide +kernel) ?_
                                                  exact ih199_159942 z160039 0 (gB_w bz160039 (by decide) (by decide)) (gB_w (gBl (show Int32.toInt 0 = 0 by decide)) (by decide) (by decide)) (by have qa0 : Int32.toInt 0 = 0 := (by decide); omega)
                                                · have r160040 : o160036.toInt ≠ g156994.toInt := gC_ne hc160037
                                                  refine G_lload 4 dr_cX17_findDepth_234 rfl ?_
                                                  refine G_aload_n 9 dr_cX17_findDepth_236 rfl ?_
                                                  refine G_iload 2 dr_cX17_findDepth_237 rfl ?_
                                                  refine Gw_callV (As := [.int g159797]) (gV_ok D I) (cp_7737_Code_get l hl0 D I P19518 F156995 q19521 q153821 q159948 g159797 q153822 p153823 p153824 p159946 p159947 f159963 n159962 q159965 q159974 q159975 p159976 p159977 hm153819 hm159944 hm159964 hm159972 he157000 he159945 r159956 he159973 (gB_w bg159797' (by decide) (by decide)) (gB_w bp159947 (by decide) (by decide)) (by omega) (by omega) (by assumption) (by omega)) dr_cX17_findDepth_239 ⟨wr_10_161, wr_1_15, wr_10_141, by decide, rfl, (Nat.le_of_ble_eq_true rfl), (Nat.le_of_ble_eq_true rfl)⟩ wr_10_139 wr_10_140 hm153819 he157000 rfl (show 0 + 0 ≤ 0 by first | omega | decide) (show 0 + 0 ≤ 0 by first | omega | decide) (Nat.le_of_ble_eq_true rfl) (fun r160044 w160045 dc160041 ds160042 hp160043 => ?_) (fun _ _ _ _ _ z => z.elim)
                                                  obtain ⟨rfl, rfl, hdc, hds⟩ := hp160043
                                                  change G _ _ _ _ _ _ _ (.ref q159965 :: _) _ _ _
                                                  refine G_widen (cs' := 0) (sl' := 0) (by omega) (by omega) ?_
                                                  refine G_iload 0 dr_cX17_findDepth_242 rfl ?_
                                                  refine Gw_callV (As := [.int g159941]) (gV_ok D I) (cp_5050_Block_way l hl0 D I P19518 F156995 q159965 q159975 g159941 q159974 p159976 p159977 p159994 p159995 p159996 p159997 p159998 p159999 p160000 hm159972 hm159992 he159973 he159993 bp159976 bp159977 bp159994 bp159995 bp159998 bp159999 bp160000) dr_cX17_findDepth_244 ⟨wr_10_170, wr_1_38, wr_10_173, by decide, rfl, (Nat.le_of_ble_eq_true rfl), (Nat.le_of_ble_eq_true rfl)⟩ wr_10_171 wr_10_172 hm159972 he159973 rfl (show 0 + 0 ≤ 0 by first | omega | decide) (show 0 + 0 ≤ 0 by first | omega | decide) (Nat.le_of_ble_eq_true rfl) (fun r160049 w160050 dc160046 ds160047 hp160048 => ?_) (fun _ _ _ _ _ z => z.elim)
                                                  obtain ⟨o160051, rfl, rfl, hdc, hds, bo160051⟩ := hp160048
                                                  change G _ _ _ _ _ _ _ (.int o160051 :: _) _ _ _
                                                  refine G_widen (cs' := 0) (sl' := 0) (by omega) (by omega) ?_
                                                  refine G_lushr dr_cX17_findDepth_247 (G_namL fun u160052 hu160052 => ?_)
                                                  refine G_lconst 1 dr_cX17_findDepth_248 rfl ?_
                                                  refine G_land dr_cX17_findDepth_249 (G_namL fun u160053 hu160053 => ?_)
                                                  refine G_lconst 0 dr_cX17_findDepth_250 rfl ?_
                                                  refine G_lcmp dr_cX17_findDepth_251 (G_nam fun z160054 hz160054 => ?_)
                                                  have bz160054 : gB z160054 (-1) 1 := gB_cmp hz160054
                                                  refine G_if_eq 259 dr_cX17_findDepth_252 (by decide +kernel) (fun hc160055 => ?_) (fun hc160055 => ?_)
                                                  · have r160056 : z160054.toInt = 0 := gj_eq hc160055 (show Int32.toInt 0 = 0 by decide)
                                                    have bz160054' : gB z160054 0 0 := ⟨by omega, by omega⟩
                                                    have lhc160055 := gC_cmpE hz160054 hc160055
                                                    have zhc160055 := rbit_0 hu160052 hu160053 lhc160055 (by omega) (by omega)
                                                    refine G_iconst 0 dr_cX17_findDepth_259 (by decide +kernel) ?_
                                                    refine G_istore (L' := [(11, .int 0), (12, .int g159941), (10, .int g159797), (9, .int g159798), (7, .long gl159799), (5, .long u157177), (4, .int g156994), (2, .long ol153853), (0, .ref q19520), (1, .ref q19521)]) dr_cX17_findDepth_260 (Nat.le_of_ble_eq_true rfl) rfl ?_
                                                    obtain ⟨z160057, hz160057⟩ : ∃ z : Int32, z = g159941 + Int32.ofInt 1 := ⟨_, rfl⟩
                                                    have ez160057 : z160057.toInt = g159941.toInt + 1 := gI_inc hz160057 (by decide) bg159941' (by decide) (by decide)
                                                    have bz160057 : gB z160057 1 2 := ⟨by omega, by omega⟩
                                                    refine G_iinc (L' := [(12, .int z160057), (11, .int 0), (10, .int g159797), (9, .int g159798), (7, .long gl159799), (5, .long u157177), (4, .int g156994), (2, .long ol153853), (0, .ref q19520), (1, .ref q19521)]) z160057 1 dr_cX17_findDepth_262 rfl hz160057.symm (Nat.le_of_ble_eq_true rfl) rfl ?_
                                                    refine G_goto 199 dr_cX17_findDepth_265 (by decide +kernel) ?_
                                                    exact ih199_159942 z160057 0 (gB_w bz160057 (by decide) (by decide)) (gB_w (gBl (show Int32.toInt 0 = 0 by decide)) (by decide) (by decide)) (by have qa0 : Int32.toInt 0 = 0 := (by decide); omega)
                                                  · have r160058 : z160054.toInt ≠ 0 := gj_neq hc160055 (show Int32.toInt 0 = 0 by decide)
                                                    have lhc160055 := gC_cmpN hz160054 hc160055
                                                    refine G_iconst 1 dr_cX17_findDepth_255 (by decide +kernel) ?_
                                                    refine G_goto 260 dr_cX17_findDepth_256 (by decide +kernel) ?_
                                                    refine G_istore (L' := [(11, .int 1), (12, .int g159941), (10, .int g159797), (9, .int g159798), (7, .long gl159799), (5, .long u157177), (4, .int g156994), (2, .long ol153853), (0, .ref q19520), (1, .ref q19521)]) dr_cX17_findDepth_260 (Nat.le_of_ble_eq_true rfl) rfl ?_
                                                    obtain ⟨z160059, hz160059⟩ : ∃ z : Int32, z = g159941 + Int32.ofInt 1 := ⟨_, rfl⟩
                                                    have ez160059 : z160059.toInt = g159941.toInt + 1 := gI_inc hz160059 (by decide) bg159941' (by decide) (by decide)
                                                    have bz160059 : gB z160059 1 2 := ⟨by omega, by omega⟩
                                                    refine G_iinc (L' := [(12, .int z160059), (11, .int 1), (10, .int g159797), (9, .int g159798), (7, .long gl159799), (5, .long u157177), (4, .int g156994), (2, .long ol153853), (0, .ref q19520), (1, .ref q19521)]) z160059 1 dr_cX17_findDepth_262 rfl hz160059.symm (Nat.le_of_ble_eq_true rfl) rfl ?_
                                                    refine G_goto 199 dr_cX17_findDepth_265 (by decide +kernel) ?_
                                                    exact ih199_159942 z160059 1 (gB_w bz160059 (by decide) (by decide)) (gB_w (gBl (show Int32.toInt 1 = 1 by decide)) (by decide) (by decide)) (by have qa0 : Int32.toInt 1 = 1 := (by decide); omega)
                                        exact hlp199_159942 (((3 : Int) - 0).toNat + 1) 0 0 (gB_w (gBl (show Int32.toInt 0 = 0 by decide)) (by decide) (by decide)) (gB_w (gBl (show Int32.toInt 0 = 0 by decide)) (by decide) (by decide)) (Nat.lt_succ_self _)
                                      · have r160060 : z159820.toInt = 0 := gj_eq hc159821 (show Int32.toInt 0 = 0 by decide)
                                        have bz159820' : gB z159820 0 0 := ⟨by omega, by omega⟩
                                        have lhc159821 := gC_cmpE hz159820 hc159821
                                        refine G_goto 288 dr_cX17_findDepth_190 (by decide +kernel) ?_
                                        obtain ⟨z160061, hz160061⟩ : ∃ z : Int32, z = g159797 + Int32.ofInt 1 := ⟨_, rfl⟩
                                        have ez160061 : z160061.toInt = g159797.toInt + 1 := gI_inc hz160061 (by decide) bg159797' (by decide) (by decide)
                                        have bz160061 : gB z160061 1 1000000 := ⟨by omega, by omega⟩
                                        refine G_iinc (L' := [(10, .int z160061), (9, .int g159798), (7, .long gl159799), (5, .long u157177), (4, .int g156994), (2, .long ol153853), (0, .ref q19520), (1, .ref q19521)]) z160061 0 dr_cX17_findDepth_288 rfl hz160061.symm (Nat.le_of_ble_eq_true rfl) rfl ?_
                                        refine G_goto 158 dr_cX17_findDepth_291 (by decide +kernel) ?_
                                        exact ih158_159801 z160061 g159798 gl159799 (gB_w bz160061 (by decide) (by decide)) bg159798 (rpop_le gl159799) (by omega) (by omega)
                              exact hlp158_159801 (((1000001 : Int) - 0).toNat + 1) 0 0 gl159366 (gB_w (gBl (show Int32.toInt 0 = 0 by decide)) (by decide) (by decide)) (gB_w (gBl (show Int32.toInt 0 = 0 by decide)) (by decide) (by decide)) (rpop_le gl159366) (by have qa0 : Int32.toInt 0 = 0 := (by decide); omega) (Nat.lt_succ_self _)
                        exact hlp147_159367 ((64 - rpop u158669) + ((1 : Int)).toNat + 1) 1 u158669 (gB_w (gBl (show Int32.toInt 1 = 1 by decide)) (by decide) (by decide)) (rpop_le u158669) (Nat.lt_succ_self _)
                      · have r160062 : z158665.toInt = 0 := gj_eq hc158666 (show Int32.toInt 0 = 0 by decide)
                        have bz158665' : gB z158665 0 0 := ⟨by omega, by omega⟩
                        have lhc158666 := gC_cmpE hz158665 hc158666
                        refine G_goto 333 dr_cX17_findDepth_132 (by decide +kernel) ?_
                        obtain ⟨z160063, hz160063⟩ : ∃ z : Int32, z = g156994 + Int32.ofInt 1 := ⟨_, rfl⟩
                        have ez160063 : z160063.toInt = g156994.toInt + 1 := gI_inc hz160063 (by decide) bg156994' (by decide) (by decide)
                        have bz160063 : gB z160063 1 1000000 := ⟨by omega, by omega⟩
                        refine G_iinc (L' := [(4, .int z160063), (9, .int g158655), (7, .long gl158656), (5, .long u157177), (2, .long ol153853), (0, .ref q19520), (1, .ref q19521)]) z160063 3 dr_cX17_findDepth_333 rfl hz160063.symm (Nat.le_of_ble_eq_true rfl) rfl ?_
                        refine G_goto 32 dr_cX17_findDepth_336 (by decide +kernel) ?_
                        refine G_lv (L' := [(4, .int z160063), (2, .long ol153853), (0, .ref q19520), (1, .ref q19521)]) [0, 4, 5, 6] rfl ?_
                        exact ih32_156997 F156995 z160063 (gB_w bz160063 (by decide) (by decide)) hT156996 hs156997 (by omega)
                    · have r160064 : g158655.toInt < p153824.toInt := gC_nle hc158663
                      have bg158655' : gB g158655 0 999999 := ⟨by omega, by omega⟩
                      refine G_lload 2 dr_cX17_findDepth_84 rfl ?_
                      refine G_iload 0 dr_cX17_findDepth_86 rfl ?_
                      refine G_lushr dr_cX17_findDepth_88 (G_namL fun u160065 hu160065 => ?_)
                      refine G_lconst 1 dr_cX17_findDepth_89 rfl ?_
                      refine G_land dr_cX17_findDepth_90 (G_namL fun u160066 hu160066 => ?_)
                      refine G_lconst 0 dr_cX17_findDepth_91 rfl ?_
                      refine G_lcmp dr_cX17_findDepth_92 (G_nam fun z160067 hz160067 => ?_)
                      have bz160067 : gB z160067 (-1) 1 := gB_cmp hz160067
                      refine G_if_eq 119 dr_cX17_findDepth_93 (by decide +kernel) (fun hc160068 => ?_) (fun hc160068 => ?_)
                      · have r160069 : z160067.toInt = 0 := gj_eq hc160068 (show Int32.toInt 0 = 0 by decide)
                        have bz160067' : gB z160067 0 0 := ⟨by omega, by omega⟩
                        have lhc160068 := gC_cmpE hz160067 hc160068
                        obtain ⟨z160070, hz160070⟩ : ∃ z : Int32, z = g158655 + Int32.ofInt 1 := ⟨_, rfl⟩
                        have ez160070 : z160070.toInt = g158655.toInt + 1 := gI_inc hz160070 (by decide) bg158655' (by decide) (by decide)
                        have bz160070 : gB z160070 1 1000000 := ⟨by omega, by omega⟩
                        refine G_iinc (L' := [(9, .int z160070), (7, .long gl158656), (5, .long u157177), (4, .int g156994), (2, .long ol153853), (0, .ref q19520), (1, .ref q19521)]) z160070 0 dr_cX17_findDepth_119 rfl hz160070.symm (Nat.le_of_ble_eq_true rfl) rfl ?_
                        refine G_goto 75 dr_cX17_findDepth_122 (by decide +kernel) ?_
                        exact ih75_158656 z160070 gl158656 (gB_w bz160070 (by decide) (by decide)) (by omega)
                      · have r160071 : z160067.toInt ≠ 0 := gj_neq hc160068 (show Int32.toInt 0 = 0 by decide)
                        have lhc160068 := gC_cmpN hz160067 hc160068
                        refine G_aload_n 6 dr_cX17_findDepth_96 rfl ?_
                        refine G_iload 0 dr_cX17_findDepth_97 rfl ?_
                        have hm160072 : q153821 ∈ P19518 := RS_m hT156996 ht153825 (by decide)
                        obtain ⟨⟨p160074, p160075, q160076, he160073, r160077, r160078, r160079, r160081⟩, r160080⟩ := show rk_4 D I γ el F156995 q153821 from RS_o hT156996 ht153825
                        have bp160074 := gB_any p160074
                        have bp160075 : gB p160075 0 1000000 := ⟨by omega, by omega⟩
                        obtain ⟨r160082, r160083, n160090, f160091, r160084, r160085, r160086, r160087, r160088, r160089⟩ := rLC_n r160079 (by omega)
                        have hm160092 : q160076 ∈ P19518 := RS_m hT156996 r160082 (by decide)
                        obtain ⟨q160093, hx160094⟩ : ∃ x, x = el q153821 g158655.toInt.toNat := ⟨_, rfl⟩
                        have hx160095 : f160091 g158655.toNatClampNeg = some q160093 := (r160088 _ (show g158655.toInt.toNat < γ 2 q153821 by omega)).trans (by rw [hx160094])
                        have ht160098 : rKd γ q160093 2 := by rw [hx160094]; exact (r153836 _ (by omega)).resolve_right (fun z => absurd z.1 (by omega))
                        have ht160099 : rFm γ q160093 q153821 := by rw [hx160094]; exact (r160080 _ (show g158655.toInt.toNat < γ 2 q153821 by omega)).2.1
                        have hm160100 : q160093 ∈ P19518 := RS_m hT156996 ht160098 (by decide)
                        obtain ⟨q160102, q160103, p160104, p160105, he160101, ht160112, ht160106, ht160107, ht160108, ht160109, ht160110, bp160104, bp160105, r160111, r160113, r160114⟩ := show rk_2 γ q160093 (F156995 q160093) from RS_o hT156996 ht160098
                        refine Gw_callV (As := [.int g158655]) (gV_ok D I) (cp_7737_Code_get l hl0 D I P19518 F156995 q19521 q153821 q160076 g158655 q153822 p153823 p153824 p160074 p160075 f160091 n160090 q160093 q160102 q160103 p160104 p160105 hm153819 hm160072 hm160092 hm160100 he157000 he160073 r160084 he160101 (gB_w bg158655' (by decide) (by decide)) (gB_w bp160075 (by decide) (by decide)) (by omega) (by omega) (by assumption) (by omega)) dr_cX17_findDepth_99 ⟨wr_10_161, wr_1_15, wr_10_141, by decide, rfl, (Nat.le_of_ble_eq_true rfl), (Nat.le_of_ble_eq_true rfl)⟩ wr_10_139 wr_10_140 hm153819 he157000 rfl (show 0 + 0 ≤ 0 by first | omega | decide) (show 0 + 0 ≤ 0 by first | omega | decide) (Nat.le_of_ble_eq_true rfl) (fun r160118 w160119 dc160115 ds160116 hp160117 => ?_) (fun _ _ _ _ _ z => z.elim)
                        obtain ⟨rfl, rfl, hdc, hds⟩ := hp160117
                        change G _ _ _ _ _ _ _ (.ref q160093 :: _) _ _ _
                        refine G_widen (cs' := 0) (sl' := 0) (by omega) (by omega) ?_
                        refine G_iload 3 dr_cX17_findDepth_102 rfl ?_
                        refine Gw_callS (As := [.ref q160093, .int g156994]) (gV_ok D I) (ct_7444_SpillForgeModel_leads l hl0 D I γ el P19518 F156995 q160093 g156994 hT156996 ht160098) dr_cX17_findDepth_104 ⟨wr_11_44, wr_1_14, wr_11_46, by decide, rfl, (Nat.le_of_ble_eq_true rfl), (Nat.le_of_ble_eq_true rfl)⟩ wr_11_45 (show 0 + 0 ≤ 0 by first | omega | decide) (show 0 + 0 ≤ 0 by first | omega | decide) (Nat.le_of_ble_eq_true rfl) (fun r160123 w160124 dc160120 ds160121 hp160122 => ?_) (fun _ _ _ _ _ z => z.elim)
                        obtain ⟨o160125, rfl, rfl, hdc, hds, bo160125⟩ := hp160122
                        change G _ _ _ _ _ _ _ (.int o160125 :: _) _ _ _
                        refine G_widen (cs' := 0) (sl' := 0) (by omega) (by omega) ?_
                        refine G_if_eq 119 dr_cX17_findDepth_107 (by decide +kernel) (fun hc160126 => ?_) (fun hc160126 => ?_)
                        · have r160127 : o160125.toInt = 0 := gj_eq hc160126 (show Int32.toInt 0 = 0 by decide)
                          have bo160125' : gB o160125 0 0 := ⟨by omega, by omega⟩
                          obtain ⟨z160128, hz160128⟩ : ∃ z : Int32, z = g158655 + Int32.ofInt 1 := ⟨_, rfl⟩
                          have ez160128 : z160128.toInt = g158655.toInt + 1 := gI_inc hz160128 (by decide) bg158655' (by decide) (by decide)
                          have bz160128 : gB z160128 1 1000000 := ⟨by omega, by omega⟩
                          refine G_iinc (L' := [(9, .int z160128), (7, .long gl158656), (5, .long u157177), (4, .int g156994), (2, .long ol153853), (0, .ref q19520), (1, .ref q19521)]) z160128 0 dr_cX17_findDepth_119 rfl hz160128.symm (Nat.le_of_ble_eq_true rfl) rfl ?_
                          refine G_goto 75 dr_cX17_findDepth_122 (by decide +kernel) ?_
                          exact ih75_158656 z160128 gl158656 (gB_w bz160128 (by decide) (by decide)) (by omega)
                        · have r160129 : o160125.toInt ≠ 0 := gj_neq hc160126 (show Int32.toInt 0 = 0 by decide)
                          have bo160125' : gB o160125 1 1 := ⟨by omega, by omega⟩
                          refine G_lload 1 dr_cX17_findDepth_110 rfl ?_
                          refine G_lconst 1 dr_cX17_findDepth_112 rfl ?_
                          refine G_iload 0 dr_cX17_findDepth_113 rfl ?_
                          refine G_lshl dr_cX17_findDepth_115 (G_namL fun u160130 hu160130 => ?_)
                          have qu160130 : lb_Q u160130 (g158655.toInt % 64 + 1) := lb_Qshl hu160130 (by omega)
                          refine G_lor dr_cX17_findDepth_116 (G_namL fun u160131 hu160131 => ?_)
                          have pmu160131 : rpop gl158656 ≤ rpop u160131 := rpop_or hu160131
                          refine G_lstore (L' := [(7, .long u160131), (9, .int g158655), (5, .long u157177), (4, .int g156994), (2, .long ol153853), (0, .ref q19520), (1, .ref q19521)]) dr_cX17_findDepth_117 (Nat.le_of_ble_eq_true rfl) rfl ?_
                          obtain ⟨z160132, hz160132⟩ : ∃ z : Int32, z = g158655 + Int32.ofInt 1 := ⟨_, rfl⟩
                          have ez160132 : z160132.toInt = g158655.toInt + 1 := gI_inc hz160132 (by decide) bg158655' (by decide) (by decide)
                          have bz160132 : gB z160132 1 1000000 := ⟨by omega, by omega⟩
                          refine G_iinc (L' := [(9, .int z160132), (7, .long u160131), (5, .long u157177), (4, .int g156994), (2, .long ol153853), (0, .ref q19520), (1, .ref q19521)]) z160132 1 dr_cX17_findDepth_119 rfl hz160132.symm (Nat.le_of_ble_eq_true rfl) rfl ?_
                          refine G_goto 75 dr_cX17_findDepth_122 (by decide +kernel) ?_
                          exact ih75_158656 z160132 u160131 (gB_w bz160132 (by decide) (by decide)) (by omega)
                exact hlp75_158656 (((1000001 : Int) - 0).toNat + 1) 0 0 (gB_w (gBl (show Int32.toInt 0 = 0 by decide)) (by decide) (by decide)) (Nat.lt_succ_self _)
              · have r160133 : z157167.toInt = 0 := gj_eq hc157168 (show Int32.toInt 0 = 0 by decide)
                have bz157167' : gB z157167 0 0 := ⟨by omega, by omega⟩
                have lhc157168 := gC_cmpE hz157167 hc157168
                refine G_goto 333 dr_cX17_findDepth_52 (by decide +kernel) ?_
                obtain ⟨z160134, hz160134⟩ : ∃ z : Int32, z = g156994 + Int32.ofInt 1 := ⟨_, rfl⟩
                have ez160134 : z160134.toInt = g156994.toInt + 1 := gI_inc hz160134 (by decide) bg156994' (by decide) (by decide)
                have bz160134 : gB z160134 1 1000000 := ⟨by omega, by omega⟩
                refine G_iinc (L' := [(4, .int z160134), (2, .long ol153853), (0, .ref q19520), (1, .ref q19521)]) z160134 0 dr_cX17_findDepth_333 rfl hz160134.symm (Nat.le_of_ble_eq_true rfl) rfl ?_
                refine G_goto 32 dr_cX17_findDepth_336 (by decide +kernel) ?_
                exact ih32_156997 F156995 z160134 (gB_w bz160134 (by decide) (by decide)) hT156996 hs156997 (by omega)
        exact hlp32_156997 (((1000001 : Int) - 0).toNat + 1) F153813 0 (gB_w (gBl (show Int32.toInt 0 = 0 by decide)) (by decide) (by decide)) hT153814 hs153815 (Nat.lt_succ_self _)
      · have r160135 : g153812.toInt < p153824.toInt := gC_nle hc153846
        have bg153812' : gB g153812 0 999999 := ⟨by omega, by omega⟩
        have bp153824' : gB p153824 1 1000000 := ⟨by omega, by omega⟩
        refine G_aload_n 1 dr_cX17_findDepth_10 rfl ?_
        have hm160136 : q19520 ∈ P19518 := RS_m hT153814 htq19520 (by decide)
        obtain ⟨q160138, q160139, p160140, p160141, p160142, p160143, p160144, p160145, p160146, p160147, p160148, p160149, p160150, p160151, p160152, p160153, p160154, he160137, hB160181, ht160155, ht160156, ht160157, ht160158, ht160159, ht160160, ht160161, ht160162, ht160163, ht160164, ht160165, ht160166, ht160167, ht160168, ht160169, ht160170, ht160171, ht160172, ht160173, ht160174, ht160175, ht160176, ht160177, ht160178, hB160182⟩ := show rk_10 γ (F153813 q19520) from RS_o hT153814 htq19520
        refine Gp_get 4 hm160136 he160137 dr_cX17_findDepth_11 (gk_X17 D I) (Nat.le_of_ble_eq_true rfl) wr_7_78 rfl ?_
        refine G_iload_n 0 dr_cX17_findDepth_14 rfl ?_
        refine G_iconst 0 dr_cX17_findDepth_15 (by decide +kernel) ?_
        have hm160183 : (γ 9 4) ∈ P19518 := RS_m hT153814 ht160161 (by decide)
        obtain ⟨f160185, he160184⟩ := show rk_16 I (F153813 (γ 9 4)) from RS_o hT153814 ht160161
        refine Gp_iast 0 hm160183 he160184 dr_cX17_findDepth_16 rfl (gB_inr (by omega) (by omega)) (fun F160186 e160187 n160188 => ?_)
        obtain ⟨f160189, hf160189⟩ : ∃ z, z = upd f160185 g153812.toNatClampNeg 0 := ⟨_, rfl⟩
        rw [← hf160189] at e160187
        have he160190 : F160186 q19521 = .inr (18, [.ref q153821, .ref q153822, .int p153823, .int p153824]) := (n160188 q19521 (rn_oa he153820 he160184)).trans he153820
        have he160191 : F160186 q19520 = .inr (22, [.ref (γ 9 0), .ref (γ 9 1), .ref (γ 9 2), .ref (γ 9 3), .ref (γ 9 4), .ref (γ 9 5), .ref (γ 9 6), .ref (γ 9 7), .ref (γ 9 8), .int p160140, .int p160141, .int p160142, .int p160143, .int p160144, .int p160145, .ref (γ 9 15), .ref (γ 9 16), .ref (γ 9 17), .ref (γ 9 18), .ref (γ 9 19), .ref (γ 9 20), .ref (γ 9 21), .ref (γ 9 22), .int p160146, .int p160147, .int p160148, .int p160149, .int p160150, .ref q160138, .ref (γ 9 29), .int p160151, .ref (γ 9 31), .int p160152, .int p160153, .int p160154, .ref q160139]) := (n160188 q19520 (rn_oa he160137 he160184)).trans he160137
        have he160192 : F160186 (γ 9 4) = .inl (I .int, 40, .inl f160189) := e160187
        have hs160193 : rStr γ [] F19519 F160186 := rStr_put hs153815 n160188 ht160161 (by decide)
        obtain ⟨z160194, hz160194⟩ : ∃ z : Int32, z = g153812 + Int32.ofInt 1 := ⟨_, rfl⟩
        have ez160194 : z160194.toInt = g153812.toInt + 1 := gI_inc hz160194 (by decide) bg153812' (by decide) (by decide)
        have bz160194 : gB z160194 1 1000000 := ⟨by omega, by omega⟩
        refine G_iinc (L' := [(2, .int z160194), (0, .ref q19520), (1, .ref q19521)]) z160194 0 dr_cX17_findDepth_17 rfl hz160194.symm (Nat.le_of_ble_eq_true rfl) rfl ?_
        refine G_goto 2 dr_cX17_findDepth_20 (by decide +kernel) ?_
        have hT160195 : RS D I P19518 F160186 γ el := RS_set hT153814 n160188 ht160161 (by decide) ⟨f160189, he160192⟩
        exact ih2_153815 F160186 z160194 (gB_w bz160194 (by decide) (by decide)) hT160195 hs160193 (by omega)
  exact hlp2_153815 (((1000001 : Int) - 0).toNat + 1) F19519 0 (gB_w (gBl (show Int32.toInt 0 = 0 by decide)) (by decide) (by decide)) hT (rStr_rf (γ := γ) (W := []) (F := F19519)) (Nat.lt_succ_self _)
