theorem dr_cX17_findDepth_0 : decode cX17_findDepth 0 = .ok (.iconst 0, 1) := by decide +kernel
theorem dr_cX17_findDepth_1 : decode cX17_findDepth 1 = .ok (.istore_n 2, 1) := by decide +kernel
theorem dr_cX17_findDepth_2 : decode cX17_findDepth 2 = .ok (.iload_n 2, 1) := by decide +kernel
theorem dr_cX17_findDepth_3 : decode cX17_findDepth 3 = .ok (.aload_n 1, 1) := by decide +kernel
theorem dr_cX17_findDepth_4 : decode cX17_findDepth 4 = .ok (.invokevirtual 96, 3) := by decide +kernel
theorem dr_cX17_findDepth_7 : decode cX17_findDepth 7 = .ok (.if_icmp .ge 16, 3) := by decide +kernel
theorem dr_cX17_findDepth_23 : decode cX17_findDepth 23 = .ok (.aload_n 1, 1) := by decide +kernel
theorem dr_cX17_findDepth_24 : decode cX17_findDepth 24 = .ok (.iconst (-1), 1) := by decide +kernel
theorem dr_cX17_findDepth_25 : decode cX17_findDepth 25 = .ok (.invokestatic 156, 3) := by decide +kernel
theorem wr_11_41 : (Jvm.Cond.methodLink "SpillForgeModel" (156 : Nat) ({ cls := "SpillForgeModel", name := "reached", desc := "(LSpillForgeModel$Code;I)J" } : Jvm.MethodName)) ∈ gw := gw_11 41 rfl rfl
theorem wr_11_43 : (Jvm.Cond.code ({ cls := "SpillForgeModel", name := "reached", desc := "(LSpillForgeModel$Code;I)J" } : Jvm.MethodName) prog_14_method_12_code (8 : Nat) (Option.some Jvm.ClassFile.FieldType.long)) ∈ gw := gw_11 43 rfl rfl
theorem wr_11_42 : (Jvm.Cond.static ({ cls := "SpillForgeModel", name := "reached", desc := "(LSpillForgeModel$Code;I)J" } : Jvm.MethodName)) ∈ gw := gw_11 42 rfl rfl
theorem dr_cX17_findDepth_28 : decode cX17_findDepth 28 = .ok (.lstore_n 2, 1) := by decide +kernel
theorem dr_cX17_findDepth_29 : decode cX17_findDepth 29 = .ok (.iconst 0, 1) := by decide +kernel
theorem dr_cX17_findDepth_30 : decode cX17_findDepth 30 = .ok (.istore 4, 2) := by decide +kernel
theorem dr_cX17_findDepth_32 : decode cX17_findDepth 32 = .ok (.iload 4, 2) := by decide +kernel
theorem dr_cX17_findDepth_34 : decode cX17_findDepth 34 = .ok (.aload_n 1, 1) := by decide +kernel
theorem dr_cX17_findDepth_35 : decode cX17_findDepth 35 = .ok (.invokevirtual 96, 3) := by decide +kernel
theorem dr_cX17_findDepth_38 : decode cX17_findDepth 38 = .ok (.if_icmp .ge 301, 3) := by decide +kernel
theorem dr_cX17_findDepth_339 : decode cX17_findDepth 339 = .ok (.iconst 0, 1) := by decide +kernel
theorem dr_cX17_findDepth_340 : decode cX17_findDepth 340 = .ok (.istore 4, 2) := by decide +kernel
theorem dr_cX17_findDepth_342 : decode cX17_findDepth 342 = .ok (.iload 4, 2) := by decide +kernel
theorem dr_cX17_findDepth_344 : decode cX17_findDepth 344 = .ok (.aload_n 1, 1) := by decide +kernel
theorem dr_cX17_findDepth_345 : decode cX17_findDepth 345 = .ok (.invokevirtual 96, 3) := by decide +kernel
theorem dr_cX17_findDepth_348 : decode cX17_findDepth 348 = .ok (.if_icmp .ge 27, 3) := by decide +kernel
theorem dr_cX17_findDepth_375 : decode cX17_findDepth 375 = .ok (.return_, 1) := by decide +kernel
theorem dr_cX17_findDepth_351 : decode cX17_findDepth 351 = .ok (.aload_n 0, 1) := by decide +kernel
theorem dr_cX17_findDepth_352 : decode cX17_findDepth 352 = .ok (.getfield 152, 3) := by decide +kernel
theorem wr_7_78 : (Jvm.Cond.fieldLink "SpillForgeModel" (152 : Nat) "SpillForgeModel" "depth" "[I") ∈ gw := gw_7 78 rfl rfl
theorem dr_cX17_findDepth_355 : decode cX17_findDepth 355 = .ok (.iload 4, 2) := by decide +kernel
theorem dr_cX17_findDepth_357 : decode cX17_findDepth 357 = .ok (.aload_n 0, 1) := by decide +kernel
theorem dr_cX17_findDepth_358 : decode cX17_findDepth 358 = .ok (.getfield 152, 3) := by decide +kernel
theorem dr_cX17_findDepth_361 : decode cX17_findDepth 361 = .ok (.iload 4, 2) := by decide +kernel
theorem dr_cX17_findDepth_363 : decode cX17_findDepth 363 = .ok (.iaload, 1) := by decide +kernel
theorem dr_cX17_findDepth_364 : decode cX17_findDepth 364 = .ok (.iconst 4, 1) := by decide +kernel
theorem dr_cX17_findDepth_365 : decode cX17_findDepth 365 = .ok (.invokestatic 164, 3) := by decide +kernel
theorem wr_11_20 : (Jvm.Cond.methodLink "SpillForgeModel" (164 : Nat) ({ cls := "java/lang/Math", name := "min", desc := "(II)I" } : Jvm.MethodName)) ∈ gw := gw_11 20 rfl rfl
theorem dr_cX17_findDepth_368 : decode cX17_findDepth 368 = .ok (.iastore, 1) := by decide +kernel
theorem dr_cX17_findDepth_369 : decode cX17_findDepth 369 = .ok (.iinc 4 1, 3) := by decide +kernel
theorem dr_cX17_findDepth_372 : decode cX17_findDepth 372 = .ok (.goto (-30), 3) := by decide +kernel
theorem dr_cX17_findDepth_41 : decode cX17_findDepth 41 = .ok (.lload_n 2, 1) := by decide +kernel
theorem dr_cX17_findDepth_42 : decode cX17_findDepth 42 = .ok (.iload 4, 2) := by decide +kernel
theorem dr_cX17_findDepth_44 : decode cX17_findDepth 44 = .ok (.lushr, 1) := by decide +kernel
theorem dr_cX17_findDepth_45 : decode cX17_findDepth 45 = .ok (.lconst 1, 1) := by decide +kernel
theorem dr_cX17_findDepth_46 : decode cX17_findDepth 46 = .ok (.land, 1) := by decide +kernel
theorem dr_cX17_findDepth_47 : decode cX17_findDepth 47 = .ok (.lconst 0, 1) := by decide +kernel
theorem dr_cX17_findDepth_48 : decode cX17_findDepth 48 = .ok (.lcmp, 1) := by decide +kernel
theorem dr_cX17_findDepth_49 : decode cX17_findDepth 49 = .ok (.ifCond .ne 6, 3) := by decide +kernel
theorem dr_cX17_findDepth_55 : decode cX17_findDepth 55 = .ok (.lload_n 2, 1) := by decide +kernel
theorem dr_cX17_findDepth_56 : decode cX17_findDepth 56 = .ok (.aload_n 1, 1) := by decide +kernel
theorem dr_cX17_findDepth_57 : decode cX17_findDepth 57 = .ok (.iload 4, 2) := by decide +kernel
theorem dr_cX17_findDepth_59 : decode cX17_findDepth 59 = .ok (.invokestatic 156, 3) := by decide +kernel
theorem dr_cX17_findDepth_62 : decode cX17_findDepth 62 = .ok (.ldc2_w 31, 3) := by decide +kernel
theorem dr_cX17_findDepth_65 : decode cX17_findDepth 65 = .ok (.lxor, 1) := by decide +kernel
theorem dr_cX17_findDepth_66 : decode cX17_findDepth 66 = .ok (.land, 1) := by decide +kernel
theorem dr_cX17_findDepth_67 : decode cX17_findDepth 67 = .ok (.lstore 5, 2) := by decide +kernel
theorem dr_cX17_findDepth_69 : decode cX17_findDepth 69 = .ok (.lconst 0, 1) := by decide +kernel
theorem dr_cX17_findDepth_70 : decode cX17_findDepth 70 = .ok (.lstore 7, 2) := by decide +kernel
theorem dr_cX17_findDepth_72 : decode cX17_findDepth 72 = .ok (.iconst 0, 1) := by decide +kernel
theorem dr_cX17_findDepth_73 : decode cX17_findDepth 73 = .ok (.istore 9, 2) := by decide +kernel
theorem dr_cX17_findDepth_75 : decode cX17_findDepth 75 = .ok (.iload 9, 2) := by decide +kernel
theorem dr_cX17_findDepth_77 : decode cX17_findDepth 77 = .ok (.aload_n 1, 1) := by decide +kernel
theorem dr_cX17_findDepth_78 : decode cX17_findDepth 78 = .ok (.invokevirtual 96, 3) := by decide +kernel
theorem dr_cX17_findDepth_81 : decode cX17_findDepth 81 = .ok (.if_icmp .ge 44, 3) := by decide +kernel
theorem dr_cX17_findDepth_125 : decode cX17_findDepth 125 = .ok (.lload 7, 2) := by decide +kernel
theorem dr_cX17_findDepth_127 : decode cX17_findDepth 127 = .ok (.lconst 0, 1) := by decide +kernel
theorem dr_cX17_findDepth_128 : decode cX17_findDepth 128 = .ok (.lcmp, 1) := by decide +kernel
theorem dr_cX17_findDepth_129 : decode cX17_findDepth 129 = .ok (.ifCond .ne 6, 3) := by decide +kernel
theorem dr_cX17_findDepth_135 : decode cX17_findDepth 135 = .ok (.lload 7, 2) := by decide +kernel
theorem dr_cX17_findDepth_137 : decode cX17_findDepth 137 = .ok (.lconst 1, 1) := by decide +kernel
theorem dr_cX17_findDepth_138 : decode cX17_findDepth 138 = .ok (.iload 4, 2) := by decide +kernel
theorem dr_cX17_findDepth_140 : decode cX17_findDepth 140 = .ok (.lshl, 1) := by decide +kernel
theorem dr_cX17_findDepth_141 : decode cX17_findDepth 141 = .ok (.lor, 1) := by decide +kernel
theorem dr_cX17_findDepth_142 : decode cX17_findDepth 142 = .ok (.lstore 7, 2) := by decide +kernel
theorem dr_cX17_findDepth_144 : decode cX17_findDepth 144 = .ok (.iconst 1, 1) := by decide +kernel
theorem dr_cX17_findDepth_145 : decode cX17_findDepth 145 = .ok (.istore 9, 2) := by decide +kernel
theorem dr_cX17_findDepth_147 : decode cX17_findDepth 147 = .ok (.iload 9, 2) := by decide +kernel
theorem dr_cX17_findDepth_149 : decode cX17_findDepth 149 = .ok (.ifCond .eq 148, 3) := by decide +kernel
theorem dr_cX17_findDepth_297 : decode cX17_findDepth 297 = .ok (.iconst 0, 1) := by decide +kernel
theorem dr_cX17_findDepth_298 : decode cX17_findDepth 298 = .ok (.istore 10, 2) := by decide +kernel
theorem dr_cX17_findDepth_300 : decode cX17_findDepth 300 = .ok (.iload 10, 2) := by decide +kernel
theorem dr_cX17_findDepth_302 : decode cX17_findDepth 302 = .ok (.aload_n 1, 1) := by decide +kernel
theorem dr_cX17_findDepth_303 : decode cX17_findDepth 303 = .ok (.invokevirtual 96, 3) := by decide +kernel
theorem dr_cX17_findDepth_306 : decode cX17_findDepth 306 = .ok (.if_icmp .ge 27, 3) := by decide +kernel
theorem dr_cX17_findDepth_333 : decode cX17_findDepth 333 = .ok (.iinc 4 1, 3) := by decide +kernel
theorem dr_cX17_findDepth_336 : decode cX17_findDepth 336 = .ok (.goto (-304), 3) := by decide +kernel
theorem dr_cX17_findDepth_309 : decode cX17_findDepth 309 = .ok (.aload_n 0, 1) := by decide +kernel
theorem dr_cX17_findDepth_310 : decode cX17_findDepth 310 = .ok (.getfield 152, 3) := by decide +kernel
theorem dr_cX17_findDepth_313 : decode cX17_findDepth 313 = .ok (.iload 10, 2) := by decide +kernel
theorem dr_cX17_findDepth_315 : decode cX17_findDepth 315 = .ok (.dup2, 1) := by decide +kernel
theorem dr_cX17_findDepth_316 : decode cX17_findDepth 316 = .ok (.iaload, 1) := by decide +kernel
theorem dr_cX17_findDepth_317 : decode cX17_findDepth 317 = .ok (.lload 7, 2) := by decide +kernel
theorem dr_cX17_findDepth_319 : decode cX17_findDepth 319 = .ok (.iload 10, 2) := by decide +kernel
theorem dr_cX17_findDepth_321 : decode cX17_findDepth 321 = .ok (.lushr, 1) := by decide +kernel
theorem dr_cX17_findDepth_322 : decode cX17_findDepth 322 = .ok (.lconst 1, 1) := by decide +kernel
theorem dr_cX17_findDepth_323 : decode cX17_findDepth 323 = .ok (.land, 1) := by decide +kernel
theorem dr_cX17_findDepth_324 : decode cX17_findDepth 324 = .ok (.l2i, 1) := by decide +kernel
theorem dr_cX17_findDepth_325 : decode cX17_findDepth 325 = .ok (.iadd, 1) := by decide +kernel
theorem dr_cX17_findDepth_326 : decode cX17_findDepth 326 = .ok (.iastore, 1) := by decide +kernel
theorem dr_cX17_findDepth_327 : decode cX17_findDepth 327 = .ok (.iinc 10 1, 3) := by decide +kernel
theorem dr_cX17_findDepth_330 : decode cX17_findDepth 330 = .ok (.goto (-30), 3) := by decide +kernel
theorem dr_cX17_findDepth_152 : decode cX17_findDepth 152 = .ok (.iconst 0, 1) := by decide +kernel
theorem dr_cX17_findDepth_153 : decode cX17_findDepth 153 = .ok (.istore 9, 2) := by decide +kernel
theorem dr_cX17_findDepth_155 : decode cX17_findDepth 155 = .ok (.iconst 0, 1) := by decide +kernel
theorem dr_cX17_findDepth_156 : decode cX17_findDepth 156 = .ok (.istore 10, 2) := by decide +kernel
theorem dr_cX17_findDepth_158 : decode cX17_findDepth 158 = .ok (.iload 10, 2) := by decide +kernel
theorem dr_cX17_findDepth_160 : decode cX17_findDepth 160 = .ok (.aload_n 1, 1) := by decide +kernel
theorem dr_cX17_findDepth_161 : decode cX17_findDepth 161 = .ok (.invokevirtual 96, 3) := by decide +kernel
theorem dr_cX17_findDepth_164 : decode cX17_findDepth 164 = .ok (.if_icmp .ge 130, 3) := by decide +kernel
theorem dr_cX17_findDepth_294 : decode cX17_findDepth 294 = .ok (.goto (-147), 3) := by decide +kernel
theorem dr_cX17_findDepth_167 : decode cX17_findDepth 167 = .ok (.lload 7, 2) := by decide +kernel
theorem dr_cX17_findDepth_169 : decode cX17_findDepth 169 = .ok (.iload 10, 2) := by decide +kernel
theorem dr_cX17_findDepth_171 : decode cX17_findDepth 171 = .ok (.lushr, 1) := by decide +kernel
theorem dr_cX17_findDepth_172 : decode cX17_findDepth 172 = .ok (.lconst 1, 1) := by decide +kernel
theorem dr_cX17_findDepth_173 : decode cX17_findDepth 173 = .ok (.land, 1) := by decide +kernel
theorem dr_cX17_findDepth_174 : decode cX17_findDepth 174 = .ok (.lconst 0, 1) := by decide +kernel
theorem dr_cX17_findDepth_175 : decode cX17_findDepth 175 = .ok (.lcmp, 1) := by decide +kernel
theorem dr_cX17_findDepth_176 : decode cX17_findDepth 176 = .ok (.ifCond .ne 112, 3) := by decide +kernel
theorem dr_cX17_findDepth_288 : decode cX17_findDepth 288 = .ok (.iinc 10 1, 3) := by decide +kernel
theorem dr_cX17_findDepth_291 : decode cX17_findDepth 291 = .ok (.goto (-133), 3) := by decide +kernel
theorem dr_cX17_findDepth_179 : decode cX17_findDepth 179 = .ok (.lload_n 2, 1) := by decide +kernel
theorem dr_cX17_findDepth_180 : decode cX17_findDepth 180 = .ok (.iload 10, 2) := by decide +kernel
theorem dr_cX17_findDepth_182 : decode cX17_findDepth 182 = .ok (.lushr, 1) := by decide +kernel
theorem dr_cX17_findDepth_183 : decode cX17_findDepth 183 = .ok (.lconst 1, 1) := by decide +kernel
theorem dr_cX17_findDepth_184 : decode cX17_findDepth 184 = .ok (.land, 1) := by decide +kernel
theorem dr_cX17_findDepth_185 : decode cX17_findDepth 185 = .ok (.lconst 0, 1) := by decide +kernel
theorem dr_cX17_findDepth_186 : decode cX17_findDepth 186 = .ok (.lcmp, 1) := by decide +kernel
theorem dr_cX17_findDepth_187 : decode cX17_findDepth 187 = .ok (.ifCond .ne 6, 3) := by decide +kernel
theorem dr_cX17_findDepth_193 : decode cX17_findDepth 193 = .ok (.iconst 0, 1) := by decide +kernel
theorem dr_cX17_findDepth_194 : decode cX17_findDepth 194 = .ok (.istore 11, 2) := by decide +kernel
theorem dr_cX17_findDepth_196 : decode cX17_findDepth 196 = .ok (.iconst 0, 1) := by decide +kernel
theorem dr_cX17_findDepth_197 : decode cX17_findDepth 197 = .ok (.istore 12, 2) := by decide +kernel
theorem dr_cX17_findDepth_199 : decode cX17_findDepth 199 = .ok (.iload 12, 2) := by decide +kernel
theorem dr_cX17_findDepth_201 : decode cX17_findDepth 201 = .ok (.aload_n 1, 1) := by decide +kernel
theorem dr_cX17_findDepth_202 : decode cX17_findDepth 202 = .ok (.iload 10, 2) := by decide +kernel
theorem dr_cX17_findDepth_204 : decode cX17_findDepth 204 = .ok (.invokevirtual 101, 3) := by decide +kernel
theorem dr_cX17_findDepth_207 : decode cX17_findDepth 207 = .ok (.invokevirtual 82, 3) := by decide +kernel
theorem dr_cX17_findDepth_210 : decode cX17_findDepth 210 = .ok (.if_icmp .ge 58, 3) := by decide +kernel
theorem dr_cX17_findDepth_268 : decode cX17_findDepth 268 = .ok (.iload 11, 2) := by decide +kernel
theorem dr_cX17_findDepth_270 : decode cX17_findDepth 270 = .ok (.ifCond .ne 6, 3) := by decide +kernel
theorem dr_cX17_findDepth_276 : decode cX17_findDepth 276 = .ok (.lload 7, 2) := by decide +kernel
theorem dr_cX17_findDepth_278 : decode cX17_findDepth 278 = .ok (.lconst 1, 1) := by decide +kernel
theorem dr_cX17_findDepth_279 : decode cX17_findDepth 279 = .ok (.iload 10, 2) := by decide +kernel
theorem dr_cX17_findDepth_281 : decode cX17_findDepth 281 = .ok (.lshl, 1) := by decide +kernel
theorem dr_cX17_findDepth_282 : decode cX17_findDepth 282 = .ok (.lor, 1) := by decide +kernel
theorem dr_cX17_findDepth_283 : decode cX17_findDepth 283 = .ok (.lstore 7, 2) := by decide +kernel
theorem dr_cX17_findDepth_285 : decode cX17_findDepth 285 = .ok (.iconst 1, 1) := by decide +kernel
theorem dr_cX17_findDepth_286 : decode cX17_findDepth 286 = .ok (.istore 9, 2) := by decide +kernel
theorem dr_cX17_findDepth_273 : decode cX17_findDepth 273 = .ok (.goto 15, 3) := by decide +kernel
theorem dr_cX17_findDepth_213 : decode cX17_findDepth 213 = .ok (.iload 11, 2) := by decide +kernel
theorem dr_cX17_findDepth_215 : decode cX17_findDepth 215 = .ok (.ifCond .ne 40, 3) := by decide +kernel
theorem dr_cX17_findDepth_255 : decode cX17_findDepth 255 = .ok (.iconst 1, 1) := by decide +kernel
theorem dr_cX17_findDepth_256 : decode cX17_findDepth 256 = .ok (.goto 4, 3) := by decide +kernel
theorem dr_cX17_findDepth_260 : decode cX17_findDepth 260 = .ok (.istore 11, 2) := by decide +kernel
theorem dr_cX17_findDepth_262 : decode cX17_findDepth 262 = .ok (.iinc 12 1, 3) := by decide +kernel
theorem dr_cX17_findDepth_265 : decode cX17_findDepth 265 = .ok (.goto (-66), 3) := by decide +kernel
theorem dr_cX17_findDepth_218 : decode cX17_findDepth 218 = .ok (.aload_n 1, 1) := by decide +kernel
theorem dr_cX17_findDepth_219 : decode cX17_findDepth 219 = .ok (.iload 10, 2) := by decide +kernel
theorem dr_cX17_findDepth_221 : decode cX17_findDepth 221 = .ok (.invokevirtual 101, 3) := by decide +kernel
theorem dr_cX17_findDepth_224 : decode cX17_findDepth 224 = .ok (.iload 12, 2) := by decide +kernel
theorem dr_cX17_findDepth_226 : decode cX17_findDepth 226 = .ok (.invokevirtual 92, 3) := by decide +kernel
theorem dr_cX17_findDepth_229 : decode cX17_findDepth 229 = .ok (.iload 4, 2) := by decide +kernel
theorem dr_cX17_findDepth_231 : decode cX17_findDepth 231 = .ok (.if_icmp .eq 28, 3) := by decide +kernel
theorem dr_cX17_findDepth_259 : decode cX17_findDepth 259 = .ok (.iconst 0, 1) := by decide +kernel
theorem dr_cX17_findDepth_234 : decode cX17_findDepth 234 = .ok (.lload 7, 2) := by decide +kernel
theorem dr_cX17_findDepth_236 : decode cX17_findDepth 236 = .ok (.aload_n 1, 1) := by decide +kernel
theorem dr_cX17_findDepth_237 : decode cX17_findDepth 237 = .ok (.iload 10, 2) := by decide +kernel
theorem dr_cX17_findDepth_239 : decode cX17_findDepth 239 = .ok (.invokevirtual 101, 3) := by decide +kernel
theorem dr_cX17_findDepth_242 : decode cX17_findDepth 242 = .ok (.iload 12, 2) := by decide +kernel
theorem dr_cX17_findDepth_244 : decode cX17_findDepth 244 = .ok (.invokevirtual 92, 3) := by decide +kernel
theorem dr_cX17_findDepth_247 : decode cX17_findDepth 247 = .ok (.lushr, 1) := by decide +kernel
theorem dr_cX17_findDepth_248 : decode cX17_findDepth 248 = .ok (.lconst 1, 1) := by decide +kernel
theorem dr_cX17_findDepth_249 : decode cX17_findDepth 249 = .ok (.land, 1) := by decide +kernel
theorem dr_cX17_findDepth_250 : decode cX17_findDepth 250 = .ok (.lconst 0, 1) := by decide +kernel
theorem dr_cX17_findDepth_251 : decode cX17_findDepth 251 = .ok (.lcmp, 1) := by decide +kernel
theorem dr_cX17_findDepth_252 : decode cX17_findDepth 252 = .ok (.ifCond .eq 7, 3) := by decide +kernel
theorem dr_cX17_findDepth_190 : decode cX17_findDepth 190 = .ok (.goto 98, 3) := by decide +kernel
theorem dr_cX17_findDepth_132 : decode cX17_findDepth 132 = .ok (.goto 201, 3) := by decide +kernel
theorem dr_cX17_findDepth_84 : decode cX17_findDepth 84 = .ok (.lload 5, 2) := by decide +kernel
theorem dr_cX17_findDepth_86 : decode cX17_findDepth 86 = .ok (.iload 9, 2) := by decide +kernel
theorem dr_cX17_findDepth_88 : decode cX17_findDepth 88 = .ok (.lushr, 1) := by decide +kernel
theorem dr_cX17_findDepth_89 : decode cX17_findDepth 89 = .ok (.lconst 1, 1) := by decide +kernel
theorem dr_cX17_findDepth_90 : decode cX17_findDepth 90 = .ok (.land, 1) := by decide +kernel
theorem dr_cX17_findDepth_91 : decode cX17_findDepth 91 = .ok (.lconst 0, 1) := by decide +kernel
theorem dr_cX17_findDepth_92 : decode cX17_findDepth 92 = .ok (.lcmp, 1) := by decide +kernel
theorem dr_cX17_findDepth_93 : decode cX17_findDepth 93 = .ok (.ifCond .eq 26, 3) := by decide +kernel
theorem dr_cX17_findDepth_119 : decode cX17_findDepth 119 = .ok (.iinc 9 1, 3) := by decide +kernel
theorem dr_cX17_findDepth_122 : decode cX17_findDepth 122 = .ok (.goto (-47), 3) := by decide +kernel
theorem dr_cX17_findDepth_96 : decode cX17_findDepth 96 = .ok (.aload_n 1, 1) := by decide +kernel
theorem dr_cX17_findDepth_97 : decode cX17_findDepth 97 = .ok (.iload 9, 2) := by decide +kernel
theorem dr_cX17_findDepth_99 : decode cX17_findDepth 99 = .ok (.invokevirtual 101, 3) := by decide +kernel
theorem dr_cX17_findDepth_102 : decode cX17_findDepth 102 = .ok (.iload 4, 2) := by decide +kernel
theorem dr_cX17_findDepth_104 : decode cX17_findDepth 104 = .ok (.invokestatic 160, 3) := by decide +kernel
theorem wr_11_44 : (Jvm.Cond.methodLink "SpillForgeModel" (160 : Nat) ({ cls := "SpillForgeModel", name := "leads", desc := "(LSpillForgeModel$Block;I)Z" } : Jvm.MethodName)) ∈ gw := gw_11 44 rfl rfl
theorem wr_11_46 : (Jvm.Cond.code ({ cls := "SpillForgeModel", name := "leads", desc := "(LSpillForgeModel$Block;I)Z" } : Jvm.MethodName) prog_14_method_13_code (3 : Nat) (Option.some Jvm.ClassFile.FieldType.boolean)) ∈ gw := gw_11 46 rfl rfl
theorem wr_11_45 : (Jvm.Cond.static ({ cls := "SpillForgeModel", name := "leads", desc := "(LSpillForgeModel$Block;I)Z" } : Jvm.MethodName)) ∈ gw := gw_11 45 rfl rfl
theorem dr_cX17_findDepth_107 : decode cX17_findDepth 107 = .ok (.ifCond .eq 12, 3) := by decide +kernel
theorem dr_cX17_findDepth_110 : decode cX17_findDepth 110 = .ok (.lload 7, 2) := by decide +kernel
theorem dr_cX17_findDepth_112 : decode cX17_findDepth 112 = .ok (.lconst 1, 1) := by decide +kernel
theorem dr_cX17_findDepth_113 : decode cX17_findDepth 113 = .ok (.iload 9, 2) := by decide +kernel
theorem dr_cX17_findDepth_115 : decode cX17_findDepth 115 = .ok (.lshl, 1) := by decide +kernel
theorem dr_cX17_findDepth_116 : decode cX17_findDepth 116 = .ok (.lor, 1) := by decide +kernel
theorem dr_cX17_findDepth_117 : decode cX17_findDepth 117 = .ok (.lstore 7, 2) := by decide +kernel
theorem dr_cX17_findDepth_52 : decode cX17_findDepth 52 = .ok (.goto 281, 3) := by decide +kernel
theorem dr_cX17_findDepth_10 : decode cX17_findDepth 10 = .ok (.aload_n 0, 1) := by decide +kernel
theorem dr_cX17_findDepth_11 : decode cX17_findDepth 11 = .ok (.getfield 152, 3) := by decide +kernel
theorem dr_cX17_findDepth_14 : decode cX17_findDepth 14 = .ok (.iload_n 2, 1) := by decide +kernel
theorem dr_cX17_findDepth_15 : decode cX17_findDepth 15 = .ok (.iconst 0, 1) := by decide +kernel
theorem dr_cX17_findDepth_16 : decode cX17_findDepth 16 = .ok (.iastore, 1) := by decide +kernel
theorem dr_cX17_findDepth_17 : decode cX17_findDepth 17 = .ok (.iinc 2 1, 3) := by decide +kernel
theorem dr_cX17_findDepth_20 : decode cX17_findDepth 20 = .ok (.goto (-18), 3) := by decide +kernel
/- tr_RModel_step: result, F -/
def tr_RModel_step (D : va_G) (I : FieldType → ClassId) (γ el : Nat → Nat → Nat) (F : Nat → va_E) (q0 : Nat) (q1 : Nat) (o1 : Int32) (o2 : Nat → va_E) : Prop := ∀ R : (Int32) → (Nat → va_E) → Prop,
  (∀ (x1 : Int32) (x2 : Int32) (x3 : Int32) (x4 : Int32) (x5 : Int32) (x6 : Nat → Int32) (x7 : Nat → Int32) (x8 : Nat → va_E), fI (F q1) 0 = x1 → x1.toInt = 0 → fR (F q0) 20 = (γ 9 20) → fI (F q1) 1 = x2 → fI (F q1) 5 = x3 → fI (F q1) 2 = x4 → tr_RModel_value D I γ el F q0 x3 x4 x5 → F (γ 9 20) = .inl (I .int, 2000, .inl x6) → x7 = upd x6 x2.toNatClampNeg x5 → (∀ b, b ≠ (γ 9 20) → x8 b = F b) → x8 (γ 9 20) = .inl (I .int, 2000, .inl x7) → R (-1 : Int32) x8) →
  (∀ (x1 : Int32) (x2 : Int32) (x3 : Int32) (x4 : Nat) (x5 : Nat → Int32) (x6 : Nat) (x7 : Int32) (x8 : Nat → Int32) (x9 : Nat → Int32) (x10 : Nat → va_E) (x11 : Int32) (x12 : Int32) (x13 : Int32) (x14 : Nat → va_E), fI (F q1) 0 = x1 → x1.toInt = 20 → fR (F q0) 20 = (γ 9 20) → fI (F q1) 1 = x2 → fI (F q0) 27 = x3 → fR (F q0) 28 = x4 → F x4 = .inl (I .int, x6, .inl x5) → x7.toInt = (x6 : Nat) → x7.toInt ≤ x3.toInt → F (γ 9 20) = .inl (I .int, 2000, .inl x8) → x9 = upd x8 x2.toNatClampNeg 0 → (∀ b, b ≠ (γ 9 20) → x10 b = F b) → x10 (γ 9 20) = .inl (I .int, 2000, .inl x9) → fI (x10 q0) 27 = x3 → x11.toInt = x3.toInt + 1 → fR (x10 q0) 28 = x4 → x10 x4 = .inl (I .int, x6, .inl x5) → x12.toInt = (x6 : Nat) → (x11.toInt ≥ x13.toInt ∧ x12.toInt ≥ x13.toInt ∧ (x13.toInt = x11.toInt ∨ x13.toInt = x12.toInt)) → (∀ b, b ≠ q0 → x14 b = x10 b) → x14 q0 = cF (x10 q0) 27 (.int x13) → R (-1 : Int32) x14) →
  (∀ (x1 : Int32) (x2 : Int32) (x3 : Int32) (x4 : Nat) (x5 : Nat → Int32) (x6 : Nat) (x7 : Int32) (x8 : Int32) (x9 : Nat → Int32) (x10 : Nat → Int32) (x11 : Nat → va_E) (x12 : Int32) (x13 : Int32) (x14 : Int32) (x15 : Nat → va_E), fI (F q1) 0 = x1 → x1.toInt = 20 → fR (F q0) 20 = (γ 9 20) → fI (F q1) 1 = x2 → fI (F q0) 27 = x3 → fR (F q0) 28 = x4 → F x4 = .inl (I .int, x6, .inl x5) → x7.toInt = (x6 : Nat) → x3.toInt < x7.toInt → x8 = x5 x3.toNatClampNeg → F (γ 9 20) = .inl (I .int, 2000, .inl x9) → x10 = upd x9 x2.toNatClampNeg x8 → (∀ b, b ≠ (γ 9 20) → x11 b = F b) → x11 (γ 9 20) = .inl (I .int, 2000, .inl x10) → fI (x11 q0) 27 = x3 → x12.toInt = x3.toInt + 1 → fR (x11 q0) 28 = x4 → x11 x4 = .inl (I .int, x6, .inl x5) → x13.toInt = (x6 : Nat) → (x12.toInt ≥ x14.toInt ∧ x13.toInt ≥ x14.toInt ∧ (x14.toInt = x12.toInt ∨ x14.toInt = x13.toInt)) → (∀ b, b ≠ q0 → x15 b = x11 b) → x15 q0 = cF (x11 q0) 27 (.int x14) → R (-1 : Int32) x15) →
  (∀ (x1 : Int32) (x2 : Int32) (x3 : Int32) (x4 : Nat → Int32) (x5 : Int32) (x6 : Nat → Int32) (x7 : Nat → Int32) (x8 : Nat → va_E), fI (F q1) 0 = x1 → x1.toInt = 21 → fR (F q0) 20 = (γ 9 20) → fI (F q1) 1 = x2 → fR (F q0) 21 = (γ 9 21) → fI (F q1) 4 = x3 → F (γ 9 21) = .inl (I .int, 2000, .inl x4) → x5 = x4 x3.toNatClampNeg → F (γ 9 20) = .inl (I .int, 2000, .inl x6) → x7 = upd x6 x2.toNatClampNeg x5 → (∀ b, b ≠ (γ 9 20) → x8 b = F b) → x8 (γ 9 20) = .inl (I .int, 2000, .inl x7) → R (-1 : Int32) x8) →
  (∀ (x1 : Int32) (x2 : Int32) (x3 : Int32) (x4 : Int32) (x5 : Int32) (x6 : Nat → Int32) (x7 : Nat → Int32) (x8 : Nat → va_E) (x9 : Int32) (x10 : Nat → va_E), fI (F q1) 0 = x1 → x1.toInt = 22 → fI (F q0) 25 = x2 → x2.toInt ≠ 512 → fR (F q0) 22 = (γ 9 22) → fI (F q1) 5 = x3 → fI (F q1) 2 = x4 → tr_RModel_value D I γ el F q0 x3 x4 x5 → F (γ 9 22) = .inl (I .int, 512, .inl x6) → x7 = upd x6 x2.toNatClampNeg x5 → (∀ b, b ≠ (γ 9 22) → x8 b = F b) → x8 (γ 9 22) = .inl (I .int, 512, .inl x7) → fI (x8 q0) 25 = x2 → x9.toInt = x2.toInt + 1 → (∀ b, b ≠ q0 → x10 b = x8 b) → x10 q0 = cF (x8 q0) 25 (.int x9) → R (-1 : Int32) x10) →
  (∀ (x1 : Int32) (x2 : Int32), fI (F q1) 0 = x1 → x1.toInt = 22 → fI (F q0) 25 = x2 → x2.toInt = 512 → R (5 : Int32) F) →
  (∀ (x1 : Int32) (x2 : Int32) (x3 : Int32) (x4 : Int32) (x5 : Int32) (x6 : Nat → Int32) (x7 : Nat → Int32) (x8 : Nat → va_E), fI (F q1) 0 = x1 → x1.toInt = 23 → fR (F q0) 21 = (γ 9 21) → fI (F q1) 4 = x2 → fI (F q1) 5 = x3 → fI (F q1) 2 = x4 → tr_RModel_value D I γ el F q0 x3 x4 x5 → F (γ 9 21) = .inl (I .int, 2000, .inl x6) → x7 = upd x6 x2.toNatClampNeg x5 → (∀ b, b ≠ (γ 9 21) → x8 b = F b) → x8 (γ 9 21) = .inl (I .int, 2000, .inl x7) → R (-1 : Int32) x8) →
  (∀ (x1 : Int32) (x2 : Int32) (x3 : Int32) (x4 : Int32) (x5 : Int32) (x6 : Int32) (x7 : Int32) (x8 : Int64) (x9 : Int32) (x10 : Int32) (x11 : Nat → Int32) (x12 : Nat → Int32) (x13 : Nat → va_E), fI (F q1) 0 = x1 → x1.toInt ≠ 0 → x1.toInt ≠ 20 → x1.toInt ≠ 21 → x1.toInt ≠ 22 → x1.toInt ≠ 23 → fI (F q1) 5 = x2 → fI (F q1) 2 = x3 → tr_RModel_value D I γ el F q0 x2 x3 x4 → fI (F q1) 6 = x5 → fI (F q1) 3 = x6 → tr_RModel_value D I γ el F q0 x5 x6 x7 → tr_RModel_result x1 x4 x7 x8 → (¬ x8 = (4294967296 : Int64)) → fR (F q0) 20 = (γ 9 20) → fI (F q1) 1 = x9 → x10 = x8.toInt32 → F (γ 9 20) = .inl (I .int, 2000, .inl x11) → x12 = upd x11 x9.toNatClampNeg x10 → (∀ b, b ≠ (γ 9 20) → x13 b = F b) → x13 (γ 9 20) = .inl (I .int, 2000, .inl x12) → R (-1 : Int32) x13) →
  (∀ (x1 : Int32) (x2 : Int32) (x3 : Int32) (x4 : Int32) (x5 : Int32) (x6 : Int32) (x7 : Int32) (x8 : Int64), fI (F q1) 0 = x1 → x1.toInt ≠ 0 → x1.toInt ≠ 20 → x1.toInt ≠ 21 → x1.toInt ≠ 22 → x1.toInt ≠ 23 → fI (F q1) 5 = x2 → fI (F q1) 2 = x3 → tr_RModel_value D I γ el F q0 x2 x3 x4 → fI (F q1) 6 = x5 → fI (F q1) 3 = x6 → tr_RModel_value D I γ el F q0 x5 x6 x7 → tr_RModel_result x1 x4 x7 x8 → x8 = (4294967296 : Int64) → R (1 : Int32) F) →
  R o1 o2
