theorem dr_cX17_findDepth_0 : decode cX17_findDepth 0 = .ok (.iconst 0, 1) := by decide +kernel
theorem dr_cX17_findDepth_1 : decode cX17_findDepth 1 = .ok (.istore_n 2, 1) := by decide +kernel
theorem dr_cX17_findDepth_2 : decode cX17_findDepth 2 = .ok (.iload_n 2, 1) := by decide +kernel
theorem dr_cX17_findDepth_3 : decode cX17_findDepth 3 = .ok (.aload_n 1, 1) := by decide +kernel
theorem dr_cX17_findDepth_4 : decode cX17_findDepth 4 = .ok (.invokevirtual 96, 3) := by decide +kernel
theorem dr_cX17_findDepth_7 : decode cX17_findDepth 7 = .ok (.if_icmp .ge 16, 3) := by decide +kernel
theorem dr_cX17_findDepth_23 : decode cX17_findDepth 23 = .ok (.aload_n 1, 1) := by decide +kernel
theorem dr_cX17_findDepth_24 : decode cX17_findDepth 24 = .ok (.iconst (-1), 1) := by decide +kernel
theorem dr_cX17_findDepth_25 : decode cX17_findDepth 25 = .ok (.invokestatic 156, 3) := by decide +kernel
theorem wr_11_41 : (Jvm.Cond.methodLink "SpillForgeModel" (156 : Nat) ({ cls := "SpillForgeModel", name := "reached", desc := "(LSpillForgeModel$Code;I)J" } : Jvm.MethodName)) ∈ gw := gw_11 41 rfl rfl
theorem wr_11_43 : (Jvm.Cond.code ({ cls := "SpillForgeModel", name := "reached", desc := "(LSpillForgeModel$Code;I)J" } : Jvm.MethodName) prog_14_method_12_code (8 : Nat) (Option.some Jvm.ClassFile.FieldType.long)) ∈ gw := gw_11 43 rfl rfl
theorem wr_11_42 : (Jvm.Cond.static ({ cls := "SpillForgeModel", name := "reached", desc := "(LSpillForgeModel$Code;I)J" } : Jvm.MethodName)) ∈ gw := gw_11 42 rfl rfl
theorem dr_cX17_findDepth_28 : decode cX17_findDepth 28 = .ok (.lstore_n 2, 1) := by decide +kernel
theorem dr_cX17_findDepth_29 : decode cX17_findDepth 29 = .ok (.iconst 0, 1) := by decide +kernel
theorem dr_cX17_findDepth_30 : decode cX17_findDepth 30 = .ok (.istore 4, 2) := by decide +kernel
theorem dr_cX17_findDepth_32 : decode cX17_findDepth 32 = .ok (.iload 4, 2) := by decide +kernel
theorem dr_cX17_findDepth_34 : decode cX17_findDepth 34 = .ok (.aload_n 1, 1) := by decide +kernel
theorem dr_cX17_findDepth_35 : decode cX17_findDepth 35 = .ok (.invokevirtual 96, 3) := by decide +kernel
theorem dr_cX17_findDepth_38 : decode cX17_findDepth 38 = .ok (.if_icmp .ge 301, 3) := by decide +kernel
theorem dr_cX17_findDepth_339 : decode cX17_findDepth 339 = .ok (.iconst 0, 1) := by decide +kernel
theorem dr_cX17_findDepth_340 : decode cX17_findDepth 340 = .ok (.istore 4, 2) := by decide +kernel
theorem dr_cX17_findDepth_342 : decode cX17_findDepth 342 = .ok (.iload 4, 2) := by decide +kernel
theorem dr_cX17_findDepth_344 : decode cX17_findDepth 344 = .ok (.aload_n 1, 1) := by decide +kernel
theorem dr_cX17_findDepth_345 : decode cX17_findDepth 345 = .ok (.invokevirtual 96, 3) := by decide +kernel
theorem dr_cX17_findDepth_348 : decode cX17_findDepth 348 = .ok (.if_icmp .ge 27, 3) := by decide +kernel
theorem dr_cX17_findDepth_375 : decode cX17_findDepth 375 = .ok (.return_, 1) := by decide +kernel
theorem dr_cX17_findDepth_351 : decode cX17_findDepth 351 = .ok (.aload_n 0, 1) := by decide +kernel
theorem dr_cX17_findDepth_352 : decode cX17_findDepth 352 = .ok (.getfield 152, 3) := by decide +kernel
theorem wr_7_78 : (Jvm.Cond.fieldLink "SpillForgeModel" (152 : Nat) "SpillForgeModel" "depth" "[I") ∈ gw := gw_7 78 rfl rfl
theorem dr_cX17_findDepth_355 : decode cX17_findDepth 355 = .ok (.iload 4, 2) := by decide +kernel
theorem dr_cX17_findDepth_357 : decode cX17_findDepth 357 = .ok (.aload_n 0, 1) := by decide +kernel
theorem dr_cX17_findDepth_358 : decode cX17_findDepth 358 = .ok (.getfield 152, 3) := by decide +kernel
theorem dr_cX17_findDepth_361 : decode cX17_findDepth 361 = .ok (.iload 4, 2) := by decide +kernel
theorem dr_cX17_findDepth_363 : decode cX17_findDepth 363 = .ok (.iaload, 1) := by decide +kernel
theorem dr_cX17_findDepth_364 : decode cX17_findDepth 364 = .ok (.iconst 4, 1) := by decide +kernel
theorem dr_cX17_findDepth_365 : decode cX17_findDepth 365 = .ok (.invokestatic 164, 3) := by decide +kernel
theorem wr_11_20 : (Jvm.Cond.methodLink "SpillForgeModel" (164 : Nat) ({ cls := "java/lang/Math", name := "min", desc := "(II)I" } : Jvm.MethodName)) ∈ gw := gw_11 20 rfl rfl
theorem dr_cX17_findDepth_368 : decode cX17_findDepth 368 = .ok (.iastore, 1) := by decide +kernel
theorem dr_cX17_findDepth_369 : decode cX17_findDepth 369 = .ok (.iinc 4 1, 3) := by decide +kernel
theorem dr_cX17_findDepth_372 : decode cX17_findDepth 372 = .ok (.goto (-30), 3) := by decide +kernel
theorem dr_cX17_findDepth_41 : decode cX17_findDepth 41 = .ok (.lload_n 2, 1) := by decide +kernel
theorem dr_cX17_findDepth_42 : decode cX17_findDepth 42 = .ok (.iload 4, 2) := by decide +kernel
theorem dr_cX17_findDepth_44 : decode cX17_findDepth 44 = .ok (.lushr, 1) := by decide +kernel
theorem dr_cX17_findDepth_45 : decode cX17_findDepth 45 = .ok (.lconst 1, 1) := by decide +kernel
theorem dr_cX17_findDepth_46 : decode cX17_findDepth 46 = .ok (.land, 1) := by decide +kernel
theorem dr_cX17_findDepth_47 : decode cX17_findDepth 47 = .ok (.lconst 0, 1) := by decide +kernel
theorem dr_cX17_findDepth_48 : decode cX17_findDepth 48 = .ok (.lcmp, 1) := by decide +kernel
theorem dr_cX17_findDepth_49 : decode cX17_findDepth 49 = .ok (.ifCond .ne 6, 3) := by decide +kernel
theorem dr_cX17_findDepth_55 : decode cX17_findDepth 55 = .ok (.lload_n 2, 1) := by decide +kernel
theorem dr_cX17_findDepth_56 : decode cX17_findDepth 56 = .ok (.aload_n 1, 1) := by decide +kernel
theorem dr_cX17_findDepth_57 : decode cX17_findDepth 57 = .ok (.iload 4, 2) := by decide +kernel
theorem dr_cX17_findDepth_59 : decode cX17_findDepth 59 = .ok (.invokestatic 156, 3) := by decide +kernel
theorem dr_cX17_findDepth_62 : decode cX17_findDepth 62 = .ok (.ldc2_w 31, 3) := by decide +kernel
theorem dr_cX17_findDepth_65 : decode cX17_findDepth 65 = .ok (.lxor, 1) := by decide +kernel
theorem dr_cX17_findDepth_66 : decode cX17_findDepth 66 = .ok (.land, 1) := by decide +kernel
theorem dr_cX17_findDepth_67 : decode cX17_findDepth 67 = .ok (.lstore 5, 2) := by decide +kernel
theorem dr_cX17_findDepth_69 : decode cX17_findDepth 69 = .ok (.lconst 0, 1) := by decide +kernel
theorem dr_cX17_findDepth_70 : decode cX17_findDepth 70 = .ok (.lstore 7, 2) := by decide +kernel
theorem dr_cX17_findDepth_72 : decode cX17_findDepth 72 = .ok (.iconst 0, 1) := by decide +kernel
theorem dr_cX17_findDepth_73 : decode cX17_findDepth 73 = .ok (.istore 9, 2) := by decide +kernel
theorem dr_cX17_findDepth_75 : decode cX17_findDepth 75 = .ok (.iload 9, 2) := by decide +kernel
theorem dr_cX17_findDepth_77 : decode cX17_findDepth 77 = .ok (.aload_n 1, 1) := by decide +kernel
theorem dr_cX17_findDepth_78 : decode cX17_findDepth 78 = .ok (.invokevirtual 96, 3) := by decide +kernel
theorem dr_cX17_findDepth_81 : decode cX17_findDepth 81 = .ok (.if_icmp .ge 44, 3) := by decide +kernel
theorem dr_cX17_findDepth_125 : decode cX17_findDepth 125 = .ok (.lload 7, 2) := by decide +kernel
theorem dr_cX17_findDepth_127 : decode cX17_findDepth 127 = .ok (.lconst 0, 1) := by decide +kernel
theorem dr_cX17_findDepth_128 : decode cX17_findDepth 128 = .ok (.lcmp, 1) := by decide +kernel
theorem dr_cX17_findDepth_129 : decode cX17_findDepth 129 = .ok (.ifCond .ne 6, 3) := by decide +kernel
theorem dr_cX17_findDepth_135 : decode cX17_findDepth 135 = .ok (.lload 7, 2) := by decide +kernel
theorem dr_cX17_findDepth_137 : decode cX17_findDepth 137 = .ok (.lconst 1, 1) := by decide +kernel
theorem dr_cX17_findDepth_138 : decode cX17_findDepth 138 = .ok (.iload 4, 2) := by decide +kernel
theorem dr_cX17_findDepth_140 : decode cX17_findDepth 140 = .ok (.lshl, 1) := by decide +kernel
theorem dr_cX17_findDepth_141 : decode cX17_findDepth 141 = .ok (.lor, 1) := by decide +kernel
theorem dr_cX17_findDepth_142 : decode cX17_findDepth 142 = .ok (.lstore 7, 2) := by decide +kernel
theorem dr_cX17_findDepth_144 : decode cX17_findDepth 144 = .ok (.iconst 1, 1) := by decide +kernel
theorem dr_cX17_findDepth_145 : decode cX17_findDepth 145 = .ok (.istore 9, 2) := by decide +kernel
theorem dr_cX17_findDepth_147 : decode cX17_findDepth 147 = .ok (.iload 9, 2) := by decide +kernel
theorem dr_cX17_findDepth_149 : decode cX17_findDepth 149 = .ok (.ifCond .eq 148, 3) := by decide +kernel
theorem dr_cX17_findDepth_297 : decode cX17_findDepth 297 = .ok (.iconst 0, 1) := by decide +kernel
theorem dr_cX17_findDepth_298 : decode cX17_findDepth 298 = .ok (.istore 10, 2) := by decide +kernel
theorem dr_cX17_findDepth_300 : decode cX17_findDepth 300 = .ok (.iload 10, 2) := by decide +kernel
theorem dr_cX17_findDepth_302 : decode cX17_findDepth 302 = .ok (.aload_n 1, 1) := by decide +kernel
theorem dr_cX17_findDepth_303 : decode cX17_findDepth 303 = .ok (.invokevirtual 96, 3) := by decide +kernel
theorem dr_cX17_findDepth_306 : decode cX17_findDepth 306 = .ok (.if_icmp .ge 27, 3) := by decide +kernel
theorem dr_cX17_findDepth_333 : decode cX17_findDepth 333 = .ok (.iinc 4 1, 3) := by decide +kernel
theorem dr_cX17_findDepth_336 : decode cX17_findDepth 336 = .ok (.goto (-304), 3) := by decide +kernel
theorem dr_cX17_findDepth_309 : decode cX17_findDepth 309 = .ok (.aload_n 0, 1) := by decide +kernel
theorem dr_cX17_findDepth_310 : decode cX17_findDepth 310 = .ok (.getfield 152, 3) := by decide +kernel
theorem dr_cX17_findDepth_313 : decode cX17_findDepth 313 = .ok (.iload 10, 2) := by decide +kernel
theorem dr_cX17_findDepth_315 : decode cX17_findDepth 315 = .ok (.dup2, 1) := by decide +kernel
theorem dr_cX17_findDepth_316 : decode cX17_findDepth 316 = .ok (.iaload, 1) := by decide +kernel
theorem dr_cX17_findDepth_317 : decode cX17_findDepth 317 = .ok (.lload 7, 2) := by decide +kernel
theorem dr_cX17_findDepth_319 : decode cX17_findDepth 319 = .ok (.iload 10, 2) := by decide +kernel
theorem dr_cX17_findDepth_321 : decode cX17_findDepth 321 = .ok (.lushr, 1) := by decide +kernel
theorem dr_cX17_findDepth_322 : decode cX17_findDepth 322 = .ok (.lconst 1, 1) := by decide +kernel
theorem dr_cX17_findDepth_323 : decode cX17_findDepth 323 = .ok (.land, 1) := by decide +kernel
theorem dr_cX17_findDepth_324 : decode cX17_findDepth 324 = .ok (.l2i, 1) := by decide +kernel
theorem dr_cX17_findDepth_325 : decode cX17_findDepth 325 = .ok (.iadd, 1) := by decide +kernel
theorem dr_cX17_findDepth_326 : decode cX17_findDepth 326 = .ok (.iastore, 1) := by decide +kernel
theorem dr_cX17_findDepth_327 : decode cX17_findDepth 327 = .ok (.iinc 10 1, 3) := by decide +kernel
theorem dr_cX17_findDepth_330 : decode cX17_findDepth 330 = .ok (.goto (-30), 3) := by decide +kernel
theorem dr_cX17_findDepth_152 : decode cX17_findDepth 152 = .ok (.iconst 0, 1) := by decide +kernel
theorem dr_cX17_findDepth_153 : decode cX17_findDepth 153 = .ok (.istore 9, 2) := by decide +kernel
theorem dr_cX17_findDepth_155 : decode cX17_findDepth 155 = .ok (.iconst 0, 1) := by decide +kernel
theorem dr_cX17_findDepth_156 : decode cX17_findDepth 156 = .ok (.istore 10, 2) := by decide +kernel
theorem dr_cX17_findDepth_158 : decode cX17_findDepth 158 = .ok (.iload 10, 2) := by decide +kernel
theorem dr_cX17_findDepth_160 : decode cX17_findDepth 160 = .ok (.aload_n 1, 1) := by decide +kernel
theorem dr_cX17_findDepth_161 : decode cX17_findDepth 161 = .ok (.invokevirtual 96, 3) := by decide +kernel
theorem dr_cX17_findDepth_164 : decode cX17_findDepth 164 = .ok (.if_icmp .ge 130, 3) := by decide +kernel
theorem dr_cX17_findDepth_294 : decode cX17_findDepth 294 = .ok (.goto (-147), 3) := by decide +kernel
theorem dr_cX17_findDepth_167 : decode cX17_findDepth 167 = .ok (.lload 7, 2) := by decide +kernel
theorem dr_cX17_findDepth_169 : decode cX17_findDepth 169 = .ok (.iload 10, 2) := by decide +kernel
theorem dr_cX17_findDepth_171 : decode cX17_findDepth 171 = .ok (.lushr, 1) := by decide +kernel
theorem dr_cX17_findDepth_172 : decode cX17_findDepth 172 = .ok (.lconst 1, 1) := by decide +kernel
theorem dr_cX17_findDepth_173 : decode cX17_findDepth 173 = .ok (.land, 1) := by decide +kernel
theorem dr_cX17_findDepth_174 : decode cX17_findDepth 174 = .ok (.lconst 0, 1) := by decide +kernel
theorem dr_cX17_findDepth_175 : decode cX17_findDepth 175 = .ok (.lcmp, 1) := by decide +kernel
theorem dr_cX17_findDepth_176 : decode cX17_findDepth 176 = .ok (.ifCond .ne 112, 3) := by decide +kernel
theorem dr_cX17_findDepth_288 : decode cX17_findDepth 288 = .ok (.iinc 10 1, 3) := by decide +kernel
theorem dr_cX17_findDepth_291 : decode cX17_findDepth 291 = .ok (.goto (-133), 3) := by decide +kernel
theorem dr_cX17_findDepth_179 : decode cX17_findDepth 179 = .ok (.lload_n 2, 1) := by decide +kernel
theorem dr_cX17_findDepth_180 : decode cX17_findDepth 180 = .ok (.iload 10, 2) := by decide +kernel
theorem dr_cX17_findDepth_182 : decode cX17_findDepth 182 = .ok (.lushr, 1) := by decide +kernel
theorem dr_cX17_findDepth_183 : decode cX17_findDepth 183 = .ok (.lconst 1, 1) := by decide +kernel
theorem dr_cX17_findDepth_184 : decode cX17_findDepth 184 = .ok (.land, 1) := by decide +kernel
theorem dr_cX17_findDepth_185 : decode cX17_findDepth 185 = .ok (.lconst 0, 1) := by decide +kernel
theorem dr_cX17_findDepth_186 : decode cX17_findDepth 186 = .ok (.lcmp, 1) := by decide +kernel
theorem dr_cX17_findDepth_187 : decode cX17_findDepth 187 = .ok (.ifCond .ne 6, 3) := by decide +kernel
theorem dr_cX17_findDepth_193 : decode cX17_findDepth 193 = .ok (.iconst 0, 1) := by decide +kernel
theorem dr_cX17_findDepth_194 : decode cX17_findDepth 194 = .ok (.istore 11, 2) := by decide +kernel
theorem dr_cX17_findDepth_196 : decode cX17_findDepth 196 = .ok (.iconst 0, 1) := by decide +kernel
theorem dr_cX17_findDepth_197 : decode cX17_findDepth 197 = .ok (.istore 12, 2) := by decide +kernel
theorem dr_cX17_findDepth_199 : decode cX17_findDepth 199 = .ok (.iload 12, 2) := by decide +kernel
theorem dr_cX17_findDepth_201 : decode cX17_findDepth 201 = .ok (.aload_n 1, 1) := by decide +kernel
theorem dr_cX17_findDepth_202 : decode cX17_findDepth 202 = .ok (.iload 10, 2) := by decide +kernel
theorem dr_cX17_findDepth_204 : decode cX17_findDepth 204 = .ok (.invokevirtual 101, 3) := by decide +kernel
theorem dr_cX17_findDepth_207 : decode cX17_findDepth 207 = .ok (.invokevirtual 82, 3) := by decide +kernel
theorem dr_cX17_findDepth_210 : decode cX17_findDepth 210 = .ok (.if_icmp .ge 58, 3) := by decide +kernel
theorem dr_cX17_findDepth_268 : decode cX17_findDepth 268 = .ok (.iload 11, 2) := by decide +kernel
theorem dr_cX17_findDepth_270 : decode cX17_findDepth 270 = .ok (.ifCond .ne 6, 3) := by decide +kernel
theorem dr_cX17_findDepth_276 : decode cX17_findDepth 276 = .ok (.lload 7, 2) := by decide +kernel
theorem dr_cX17_findDepth_278 : decode cX17_findDepth 278 = .ok (.lconst 1, 1) := by decide +kernel
theorem dr_cX17_findDepth_279 : decode cX17_findDepth 279 = .ok (.iload 10, 2) := by decide +kernel
theorem dr_cX17_findDepth_281 : decode cX17_findDepth 281 = .ok (.lshl, 1) := by decide +kernel
theorem dr_cX17_findDepth_282 : decode cX17_findDepth 282 = .ok (.lor, 1) := by decide +kernel
theorem dr_cX17_findDepth_283 : decode cX17_findDepth 283 = .ok (.lstore 7, 2) := by decide +kernel
theorem dr_cX17_findDepth_285 : decode cX17_findDepth 285 = .ok (.iconst 1, 1) := by decide +kernel
theorem dr_cX17_findDepth_286 : decode cX17_findDepth 286 = .ok (.istore 9, 2) := by decide +kernel
theorem dr_cX17_findDepth_273 : decode cX17_findDepth 273 = .ok (.goto 15, 3) := by decide +kernel
theorem dr_cX17_findDepth_213 : decode cX17_findDepth 213 = .ok (.iload 11, 2) := by decide +kernel
theorem dr_cX17_findDepth_215 : decode cX17_findDepth 215 = .ok (.ifCond .ne 40, 3) := by decide +kernel
theorem dr_cX17_findDepth_255 : decode cX17_findDepth 255 = .ok (.iconst 1, 1) := by decide +kernel
theorem dr_cX17_findDepth_256 : decode cX17_findDepth 256 = .ok (.goto 4, 3) := by decide +kernel
theorem dr_cX17_findDepth_260 : decode cX17_findDepth 260 = .ok (.istore 11, 2) := by decide +kernel
theorem dr_cX17_findDepth_262 : decode cX17_findDepth 262 = .ok (.iinc 12 1, 3) := by decide +kernel
theorem dr_cX17_findDepth_265 : decode cX17_findDepth 265 = .ok (.goto (-66), 3) := by decide +kernel
theorem dr_cX17_findDepth_218 : decode cX17_findDepth 218 = .ok (.aload_n 1, 1) := by decide +kernel
theorem dr_cX17_findDepth_219 : decode cX17_findDepth 219 = .ok (.iload 10, 2) := by decide +kernel
theorem dr_cX17_findDepth_221 : decode cX17_findDepth 221 = .ok (.invokevirtual 101, 3) := by decide +kernel
theorem dr_cX17_findDepth_224 : decode cX17_findDepth 224 = .ok (.iload 12, 2) := by decide +kernel
theorem dr_cX17_findDepth_226 : decode cX17_findDepth 226 = .ok (.invokevirtual 92, 3) := by decide +kernel
theorem dr_cX17_findDepth_229 : decode cX17_findDepth 229 = .ok (.iload 4, 2) := by decide +kernel
theorem dr_cX17_findDepth_231 : decode cX17_findDepth 231 = .ok (.if_icmp .eq 28, 3) := by decide +kernel
theorem dr_cX17_findDepth_259 : decode cX17_findDepth 259 = .ok (.iconst 0, 1) := by decide +kernel
theorem dr_cX17_findDepth_234 : decode cX17_findDepth 234 = .ok (.lload 7, 2) := by decide +kernel
theorem dr_cX17_findDepth_236 : decode cX17_findDepth 236 = .ok (.aload_n 1, 1) := by decide +kernel
theorem dr_cX17_findDepth_237 : decode cX17_findDepth 237 = .ok (.iload 10, 2) := by decide +kernel
theorem dr_cX17_findDepth_239 : decode cX17_findDepth 239 = .ok (.invokevirtual 101, 3) := by decide +kernel
theorem dr_cX17_findDepth_242 : decode cX17_findDepth 242 = .ok (.iload 12, 2) := by decide +kernel
theorem dr_cX17_findDepth_244 : decode cX17_findDepth 244 = .ok (.invokevirtual 92, 3) := by decide +kernel
theorem dr_cX17_findDepth_247 : decode cX17_findDepth 247 = .ok (.lushr, 1) := by decide +kernel
theorem dr_cX17_findDepth_248 : decode cX17_findDepth 248 = .ok (.lconst 1, 1) := by decide +kernel
theorem dr_cX17_findDepth_249 : decode cX17_findDepth 249 = .ok (.land, 1) := by decide +kernel
theorem dr_cX17_findDepth_250 : decode cX17_findDepth 250 = .ok (.lconst 0, 1) := by decide +kernel
theorem dr_cX17_findDepth_251 : decode cX17_findDepth 251 = .ok (.lcmp, 1) := by decide +kernel
theorem dr_cX17_findDepth_252 : decode cX17_findDepth 252 = .ok (.ifCond .eq 7, 3) := by decide +kernel
theorem dr_cX17_findDepth_190 : decode cX17_findDepth 190 = .ok (.goto 98, 3) := by decide +kernel
theorem dr_cX17_findDepth_132 : decode cX17_findDepth 132 = .ok (.goto 201, 3) := by decide +kernel
theorem dr_cX17_findDepth_84 : decode cX17_findDepth 84 = .ok (.lload 5, 2) := by decide +kernel
theorem dr_cX17_findDepth_86 : decode cX17_findDepth 86 = .ok (.iload 9, 2) := by decide +kernel
theorem dr_cX17_findDepth_88 : decode cX17_findDepth 88 = .ok (.lushr, 1) := by decide +kernel
theorem dr_cX17_findDepth_89 : decode cX17_findDepth 89 = .ok (.lconst 1, 1) := by decide +kernel
theorem dr_cX17_findDepth_90 : decode cX17_findDepth 90 = .ok (.land, 1) := by decide +kernel
theorem dr_cX17_findDepth_91 : decode cX17_findDepth 91 = .ok (.lconst 0, 1) := by decide +kernel
theorem dr_cX17_findDepth_92 : decode cX17_findDepth 92 = .ok (.lcmp, 1) := by decide +kernel
theorem dr_cX17_findDepth_93 : decode cX17_findDepth 93 = .ok (.ifCond .eq 26, 3) := by decide +kernel
theorem dr_cX17_findDepth_119 : decode cX17_findDepth 119 = .ok (.iinc 9 1, 3) := by decide +kernel
theorem dr_cX17_findDepth_122 : decode cX17_findDepth 122 = .ok (.goto (-47), 3) := by decide +kernel
theorem dr_cX17_findDepth_96 : decode cX17_findDepth 96 = .ok (.aload_n 1, 1) := by decide +kernel
theorem dr_cX17_findDepth_97 : decode cX17_findDepth 97 = .ok (.iload 9, 2) := by decide +kernel
theorem dr_cX17_findDepth_99 : decode cX17_findDepth 99 = .ok (.invokevirtual 101, 3) := by decide +kernel
theorem dr_cX17_findDepth_102 : decode cX17_findDepth 102 = .ok (.iload 4, 2) := by decide +kernel
theorem dr_cX17_findDepth_104 : decode cX17_findDepth 104 = .ok (.invokestatic 160, 3) := by decide +kernel
theorem wr_11_44 : (Jvm.Cond.methodLink "SpillForgeModel" (160 : Nat) ({ cls := "SpillForgeModel", name := "leads", desc := "(LSpillForgeModel$Block;I)Z" } : Jvm.MethodName)) ∈ gw := gw_11 44 rfl rfl
theorem wr_11_46 : (Jvm.Cond.code ({ cls := "SpillForgeModel", name := "leads", desc := "(LSpillForgeModel$Block;I)Z" } : Jvm.MethodName) prog_14_method_13_code (3 : Nat) (Option.some Jvm.ClassFile.FieldType.boolean)) ∈ gw := gw_11 46 rfl rfl
theorem wr_11_45 : (Jvm.Cond.static ({ cls := "SpillForgeModel", name := "leads", desc := "(LSpillForgeModel$Block;I)Z" } : Jvm.MethodName)) ∈ gw := gw_11 45 rfl rfl
theorem dr_cX17_findDepth_107 : decode cX17_findDepth 107 = .ok (.ifCond .eq 12, 3) := by decide +kernel
theorem dr_cX17_findDepth_110 : decode cX17_findDepth 110 = .ok (.lload 7, 2) := by decide +kernel
theorem dr_cX17_findDepth_112 : decode cX17_findDepth 112 = .ok (.lconst 1, 1) := by decide +kernel
theorem dr_cX17_findDepth_113 : decode cX17_findDepth 113 = .ok (.iload 9, 2) := by decide +kernel
theorem dr_cX17_findDepth_115 : decode cX17_findDepth 115 = .ok (.lshl, 1) := by decide +kernel
theorem dr_cX17_findDepth_116 : decode cX17_findDepth 116 = .ok (.lor, 1) := by decide +kernel
theorem dr_cX17_findDepth_117 : decode cX17_findDepth 117 = .ok (.lstore 7, 2) := by decide +kernel
theorem dr_cX17_findDepth_52 : decode cX17_findDepth 52 = .ok (.goto 281, 3) := by decide +kernel
theorem dr_cX17_findDepth_10 : decode cX17_findDepth 10 = .ok (.aload_n 0, 1) := by decide +kernel
theorem dr_cX17_findDepth_11 : decode cX17_findDepth 11 = .ok (.getfield 152, 3) := by decide +kernel
theorem dr_cX17_findDepth_14 : decode cX17_findDepth 14 = .ok (.iload_n 2, 1) := by decide +kernel
theorem dr_cX17_findDepth_15 : decode cX17_findDepth 15 = .ok (.iconst 0, 1) := by decide +kernel
theorem dr_cX17_findDepth_16 : decode cX17_findDepth 16 = .ok (.iastore, 1) := by decide +kernel
theorem dr_cX17_findDepth_17 : decode cX17_findDepth 17 = .ok (.iinc 2 1, 3) := by decide +kernel
theorem dr_cX17_findDepth_20 : decode cX17_findDepth 20 = .ok (.goto (-18), 3) := by decide +kernel
abbrev ky_20071_SpillForgeModel_findDepth : gKey := (cX17_findDepth, 13, "SpillForgeModel", none, [], "findDepth", fun _ _ => True)
def pt_20071_SpillForgeModel_findDepth (D : va_G) (I : FieldType → ClassId) (γ el : Nat → Nat → Nat) (P20066 : List Nat) (F20067 : Nat → va_E) (q20068 : Nat) (q20069 : Nat) : Option Value → va_W → Nat → Nat → Prop := fun r w dc ds => ∃ (F165289 : Nat → va_E), r = none ∧ w = va_pl P20066 F165289 ∧ RS D I P20066 F165289 γ el ∧ rStr γ [] F20067 F165289 ∧ dc ≤ 0 ∧ ds ≤ 0 ∧ tr_RModel_findDepth D I γ el P20066 F20067 q20068 q20069 F165289
set_option maxRecDepth 100000 in
set_option maxHeartbeats 4000000 in
theorem ct_20071_SpillForgeModel_findDepth (l : Launch) (hl0 : l.stackTraces = false) (D : va_G) (I : FieldType → ClassId) (γ el : Nat → Nat → Nat) (P20066 : List Nat) (F20067 : Nat → va_E) (q20068 : Nat) (q20069 : Nat) (hT : RS D I P20066 F20067 γ el) (htq20068 : rKd γ q20068 10) (htq20069 : rKd γ q20069 9) (x20070 : 0 < γ 6 (γ 1 q20069)) : CtA (gV D I) l yX17_findDepth cX17_findDepth 13 none 5 112 0 0 [.ref q20068, .ref q20069] (va_pl P20066 F20067) (pt_20071_SpillForgeModel_findDepth D I γ el P20066 F20067 q20068 q20069) gNA := by
  refine CtA_of hl0 (by decide) (Nat.le_of_ble_eq_true rfl) ?_
  refine G_iconst 0 dr_cX17_findDepth_0 (by decide +kernel) ?_
  refine G_istore_n (L' := [(2, .int 0), (0, .ref q20068), (1, .ref q20069)]) dr_cX17_findDepth_1 (Nat.le_of_ble_eq_true rfl) rfl ?_
  have hlp2_158680 : ∀ (n2_158680 : Nat) (F158678 : Nat → va_E) (g158677 : Int32), gB g158677 0 1000000 → RS D I P20066 F158678 γ el → rStr γ [] F20067 F158678 → (∀ (k : Nat) (e1 : Nat → va_E), tl_RModel_findDepth_2 D I γ el P20066 F20067 q20069 q20068 F158678 g158677 k e1 → tl_RModel_findDepth_2 D I γ el P20066 F20067 q20069 q20068 F20067 (0 : Int32) k e1) → ((1000001 : Int) - g158677.toInt).toNat < n2_158680 → G (gV D I) l (gRm 5 112 0 0) (gMA (gV D I) (pt_20071_SpillForgeModel_findDepth D I γ el P20066 F20067 q20068 q20069) gNA 0 0) ky_20071_SpillForgeModel_findDepth 2 [(2, .int g158677), (0, .ref q20068), (1, .ref q20069)] [] (va_pl P20066 F158678) 0 0 := by
    intro n2_158680
    induction n2_158680 with
    | zero => intro F158678 g158677 bg158677 hT158679 hs158680 kt2_158681 hm2_158680; exact absurd hm2_158680 (Nat.not_lt_zero _)
    | succ n2_158680 ih2_158680 =>
      intro F158678 g158677 bg158677 hT158679 hs158680 kt2_158681 hm2_158680
      have hs158682 : rStr γ [] F20067 F158678 := fun b h0 hb hw => (hs158680 b h0 hb hw).trans ((rStr_rf (γ := γ) (W := []) (F := F20067)) b h0 hb hw).symm
      have hs158683 : rStr γ [] F20067 F158678 := rStr_tr (rStr_rf (γ := γ) (W := []) (F := F20067)) hs158682
      refine G_iload_n 0 dr_cX17_findDepth_2 rfl ?_
      refine G_aload_n 2 dr_cX17_findDepth_3 rfl ?_
      have hm158684 : q20069 ∈ P20066 := RS_m hT158679 htq20069 (by decide)
      obtain ⟨q158686, q158687, p158688, p158689, he158685, ht158705, ht158690, ht158691, ht158692, ht158693, r158694, r158695, r158696, r158697, r158698, r158699, r158700, r158701, r158702, r158703, r158704⟩ := show rk_9 γ el q20069 (F158678 q20069) from RS_o hT158679 htq20069
      have bp158688 : gB p158688 0 1000000 := ⟨by omega, by omega⟩
      have bp158689 : gB p158689 0 1000000 := ⟨by omega, by omega⟩
      have fq158706 : fI (F158678 q20069) 3 = p158689 := by rw [he158685]; rfl
      refine Gw_callV (As := []) (gV_ok D I) (cp_12780_Code_size l hl0 D I P20066 F158678 q20069 q158686 q158687 p158688 p158689 hm158684 he158685) dr_cX17_findDepth_4 ⟨wr_10_160, wr_1_15, wr_9_131, by decide, rfl, (Nat.le_of_ble_eq_true rfl), (Nat.le_of_ble_eq_true rfl)⟩ wr_9_129 wr_9_130 hm158684 he158685 rfl (show 0 + 0 ≤ 0 by first | omega | decide) (show 0 + 0 ≤ 0 by first | omega | decide) (Nat.le_of_ble_eq_true rfl) (fun r158710 w158711 dc158707 ds158708 hp158709 => ?_) (fun _ _ _ _ _ z => z.elim)
      obtain ⟨rfl, rfl, hdc, hds⟩ := hp158709
      change G _ _ _ _ _ _ _ (.int p158689 :: _) _ _ _
      refine G_widen (cs' := 0) (sl' := 0) (by omega) (by omega) ?_
      refine G_icmp_ge 23 dr_cX17_findDepth_7 (by decide +kernel) (fun hc158712 => ?_) (fun hc158712 => ?_)
      · have r158713 : p158689.toInt ≤ g158677.toInt := gC_le hc158712
        have hx158714 : tl_RModel_findDepth_2 D I γ el P20066 F20067 q20069 q20068 F20067 (0 : Int32) 23 F158678 := kt2_158681 23 F158678 (fun R c1 c2 => c1 F158678 g158677 p158689 bg158677 hT158679 hs158680 fq158706 r158713)
        refine G_aload_n 2 dr_cX17_findDepth_23 rfl ?_
        refine G_iconst (-1) dr_cX17_findDepth_24 (by decide +kernel) ?_
        refine Gw_callS (As := [.ref q20069, .int (-1)]) (gV_ok D I) (ct_12748_SpillForgeModel_reached l hl0 D I γ el P20066 F158678 q20069 (-1) hT158679 htq20069 (by omega)) dr_cX17_findDepth_25 ⟨wr_11_41, wr_1_14, wr_11_43, by decide, rfl, (Nat.le_of_ble_eq_true rfl), (Nat.le_of_ble_eq_true rfl)⟩ wr_11_42 (show 0 + 0 ≤ 0 by first | omega | decide) (show 0 + 0 ≤ 0 by first | omega | decide) (Nat.le_of_ble_eq_true rfl) (fun r158718 w158719 dc158715 ds158716 hp158717 => ?_) (fun _ _ _ _ _ z => z.elim)
        obtain ⟨ol158720, rfl, rfl, hdc, hds, ht158721⟩ := hp158717
        change G _ _ _ _ _ _ _ (.long ol158720 :: _) _ _ _
        refine G_widen (cs' := 0) (sl' := 0) (by omega) (by omega) ?_
        refine G_lstore_n (L' := [(2, .long ol158720), (0, .ref q20068), (1, .ref q20069)]) dr_cX17_findDepth_28 (Nat.le_of_ble_eq_true rfl) rfl ?_
        refine G_iconst 0 dr_cX17_findDepth_29 (by decide +kernel) ?_
        refine G_istore (L' := [(4, .int 0), (2, .long ol158720), (0, .ref q20068), (1, .ref q20069)]) dr_cX17_findDepth_30 (Nat.le_of_ble_eq_true rfl) rfl ?_
        have hlp32_161966 : ∀ (n32_161966 : Nat) (F161964 : Nat → va_E) (g161963 : Int32), gB g161963 0 1000000 → RS D I P20066 F161964 γ el → rStr γ [] F20067 F161964 → (∀ (k : Nat) (e1 : Nat → va_E), tl_RModel_findDepth_32 D I γ el P20066 F20067 q20069 ol158720 q20068 F161964 g161963 k e1 → tl_RModel_findDepth_32 D I γ el P20066 F20067 q20069 ol158720 q20068 F158678 (0 : Int32) k e1) → ((1000001 : Int) - g161963.toInt).toNat < n32_161966 → G (gV D I) l (gRm 5 112 0 0) (gMA (gV D I) (pt_20071_SpillForgeModel_findDepth D I γ el P20066 F20067 q20068 q20069) gNA 0 0) ky_20071_SpillForgeModel_findDepth 32 [(4, .int g161963), (2, .long ol158720), (0, .ref q20068), (1, .ref q20069)] [] (va_pl P20066 F161964) 0 0 := by
          intro n32_161966
          induction n32_161966 with
          | zero => intro F161964 g161963 bg161963 hT161965 hs161966 kt32_161967 hm32_161966; exact absurd hm32_161966 (Nat.not_lt_zero _)
          | succ n32_161966 ih32_161966 =>
            intro F161964 g161963 bg161963 hT161965 hs161966 kt32_161967 hm32_161966
            have hs161968 : rStr γ [] F158678 F161964 := fun b h0 hb hw => (hs161966 b h0 hb hw).trans (hs158680 b h0 hb hw).symm
            have he161969 : F161964 q20069 = .inr (18, [.ref q158686, .ref q158687, .int p158688, .int p158689]) := (hs161968 q20069 (rT0 htq20069 (by decide)) (rT1 htq20069 (by decide)) (rT2 htq20069 (by decide))).trans he158685
            have hs161970 : rStr γ [] F20067 F161964 := rStr_tr hs158680 hs161968
            refine G_iload 0 dr_cX17_findDepth_32 rfl ?_
            refine G_aload_n 3 dr_cX17_findDepth_34 rfl ?_
            have fq161971 : fI (F161964 q20069) 3 = p158689 := by rw [he161969]; rfl
            refine Gw_callV (As := []) (gV_ok D I) (cp_12780_Code_size l hl0 D I P20066 F161964 q20069 q158686 q158687 p158688 p158689 hm158684 he161969) dr_cX17_findDepth_35 ⟨wr_10_160, wr_1_15, wr_9_131, by decide, rfl, (Nat.le_of_ble_eq_true rfl), (Nat.le_of_ble_eq_true rfl)⟩ wr_9_129 wr_9_130 hm158684 he161969 rfl (show 0 + 0 ≤ 0 by first | omega | decide) (show 0 + 0 ≤ 0 by first | omega | decide) (Nat.le_of_ble_eq_true rfl) (fun r161975 w161976 dc161972 ds161973 hp161974 => ?_) (fun _ _ _ _ _ z => z.elim)
            obtain ⟨rfl, rfl, hdc, hds⟩ := hp161974
            change G _ _ _ _ _ _ _ (.int p158689 :: _) _ _ _
            refine G_widen (cs' := 0) (sl' := 0) (by omega) (by omega) ?_
            refine G_icmp_ge 339 dr_cX17_findDepth_38 (by decide +kernel) (fun hc161977 => ?_) (fun hc161977 => ?_)
            · have r161978 : p158689.toInt ≤ g161963.toInt := gC_le hc161977
              have hx161979 : tl_RModel_findDepth_32 D I γ el P20066 F20067 q20069 ol158720 q20068 F158678 (0 : Int32) 339 F161964 := kt32_161967 339 F161964 (fun R c1 c2 c3 c4 => c1 F161964 g161963 p158689 bg161963 hT161965 hs161966 fq161971 r161978)
              refine G_iconst 0 dr_cX17_findDepth_339 (by decide +kernel) ?_
              refine G_istore (L' := [(4, .int 0), (2, .long ol158720), (0, .ref q20068), (1, .ref q20069)]) dr_cX17_findDepth_340 (Nat.le_of_ble_eq_true rfl) rfl ?_
              have hlp342_162060 : ∀ (n342_162060 : Nat) (F162058 : Nat → va_E) (g162057 : Int32), gB g162057 0 1000000 → RS D I P20066 F162058 γ el → rStr γ [] F20067 F162058 → (∀ (k : Nat) (e1 : Nat → va_E), tl_RModel_findDepth_342 D I γ el P20066 F20067 q20069 q20068 F162058 g162057 k e1 → tl_RModel_findDepth_342 D I γ el P20066 F20067 q20069 q20068 F161964 (0 : Int32) k e1) → ((1000001 : Int) - g162057.toInt).toNat < n342_162060 → G (gV D I) l (gRm 5 112 0 0) (gMA (gV D I) (pt_20071_SpillForgeModel_findDepth D I γ el P20066 F20067 q20068 q20069) gNA 0 0) ky_20071_SpillForgeModel_findDepth 342 [(4, .int g162057), (2, .long ol158720), (0, .ref q20068), (1, .ref q20069)] [] (va_pl P20066 F162058) 0 0 := by
                intro n342_162060
                induction n342_162060 with
                | zero => intro F162058 g162057 bg162057 hT162059 hs162060 kt342_162061 hm342_162060; exact absurd hm342_162060 (Nat.not_lt_zero _)
                | succ n342_162060 ih342_162060 =>
                  intro F162058 g162057 bg162057 hT162059 hs162060 kt342_162061 hm342_162060
                  have hs162062 : rStr γ [] F161964 F162058 := fun b h0 hb hw => (hs162060 b h0 hb hw).trans (hs161966 b h0 hb hw).symm
                  have he162063 : F162058 q20069 = .inr (18, [.ref q158686, .ref q158687, .int p158688, .int p158689]) := (hs162062 q20069 (rT0 htq20069 (by decide)) (rT1 htq20069 (by decide)) (rT2 htq20069 (by decide))).trans he161969
                  have hs162064 : rStr γ [] F20067 F162058 := rStr_tr hs161966 hs162062
                  refine G_iload 0 dr_cX17_findDepth_342 rfl ?_
                  refine G_aload_n 3 dr_cX17_findDepth_344 rfl ?_
                  have fq162065 : fI (F162058 q20069) 3 = p158689 := by rw [he162063]; rfl
                  refine Gw_callV (As := []) (gV_ok D I) (cp_12780_Code_size l hl0 D I P20066 F162058 q20069 q158686 q158687 p158688 p158689 hm158684 he162063) dr_cX17_findDepth_345 ⟨wr_10_160, wr_1_15, wr_9_131, by decide, rfl, (Nat.le_of_ble_eq_true rfl), (Nat.le_of_ble_eq_true rfl)⟩ wr_9_129 wr_9_130 hm158684 he162063 rfl (show 0 + 0 ≤ 0 by first | omega | decide) (show 0 + 0 ≤ 0 by first | omega | decide) (Nat.le_of_ble_eq_true rfl) (fun r162069 w162070 dc162066 ds162067 hp162068 => ?_) (fun _ _ _ _ _ z => z.elim)
                  obtain ⟨rfl, rfl, hdc, hds⟩ := hp162068
                  change G _ _ _ _ _ _ _ (.int p158689 :: _) _ _ _
                  refine G_widen (cs' := 0) (sl' := 0) (by omega) (by omega) ?_
                  refine G_icmp_ge 375 dr_cX17_findDepth_348 (by decide +kernel) (fun hc162071 => ?_) (fun hc162071 => ?_)
                  · have r162072 : p158689.toInt ≤ g162057.toInt := gC_le hc162071
                    have hx162073 : tl_RModel_findDepth_342 D I γ el P20066 F20067 q20069 q20068 F161964 (0 : Int32) 375 F162058 := kt342_162061 375 F162058 (fun R c1 c2 => c1 F162058 g162057 p158689 bg162057 hT162059 hs162060 fq162065 r162072)
                    exact G_vretA dr_cX17_findDepth_375 rfl (Nat.le_of_ble_eq_true rfl) (Nat.le_of_ble_eq_true rfl) ⟨F162058, rfl, rfl, hT162059, hs162060, (Nat.le_of_ble_eq_true rfl), (Nat.le_of_ble_eq_true rfl), (fun R c1 => c1 F158678 ol158720 F161964 F162058 hx158714 ht158721 hx161979 hx162073)⟩
                  · have r162074 : g162057.toInt < p158689.toInt := gC_nle hc162071
                    have bg162057' : gB g162057 0 999999 := ⟨by omega, by omega⟩
                    have bp158689' : gB p158689 1 1000000 := ⟨by omega, by omega⟩
                    refine G_aload_n 2 dr_cX17_findDepth_351 rfl ?_
                    have hm162075 : q20068 ∈ P20066 := RS_m hT162059 htq20068 (by decide)
                    obtain ⟨q162077, q162078, p162079, p162080, p162081, p162082, p162083, p162084, p162085, p162086, p162087, p162088, p162089, p162090, p162091, p162092, p162093, he162076, hB162120, ht162094, ht162095, ht162096, ht162097, ht162098, ht162099, ht162100, ht162101, ht162102, ht162103, ht162104, ht162105, ht162106, ht162107, ht162108, ht162109, ht162110, ht162111, ht162112, ht162113, ht162114, ht162115, ht162116, ht162117, hB162121⟩ := show rk_10 γ (F162058 q20068) from RS_o hT162059 htq20068
                    have fq162122 : fR (F162058 q20068) 4 = (γ 9 4) := by rw [he162076]; rfl
                    refine Gp_get 4 hm162075 he162076 dr_cX17_findDepth_352 (gk_X17 D I) (Nat.le_of_ble_eq_true rfl) wr_7_78 rfl ?_
                    refine G_iload 0 dr_cX17_findDepth_355 rfl ?_
                    refine G_aload_n 2 dr_cX17_findDepth_357 rfl ?_
                    refine Gp_get 4 hm162075 he162076 dr_cX17_findDepth_358 (gk_X17 D I) (Nat.le_of_ble_eq_true rfl) wr_7_78 rfl ?_
                    refine G_iload 0 dr_cX17_findDepth_361 rfl ?_
                    have hm162123 : (γ 9 4) ∈ P20066 := RS_m hT162059 ht162100 (by decide)
                    obtain ⟨f162125, he162124⟩ := show rk_16 I (F162058 (γ 9 4)) from RS_o hT162059 ht162100
                    refine Gp_iald 0 hm162123 he162124 dr_cX17_findDepth_363 rfl (gB_inr (by omega) (by omega)) (G_nam fun z162126 hz162126 => ?_)
                    have bz162126 : gB z162126 (-2147483648) 2147483647 := gB_any z162126
                    refine G_iconst 4 dr_cX17_findDepth_364 (by decide +kernel) ?_
                    refine G_mmin dr_cX17_findDepth_365 wr_11_20 wr_3_227 wr_1_6 wr_3_228 (Nat.le_of_ble_eq_true rfl) (Nat.le_of_ble_eq_true rfl) (show 0 ≤ 0 by first | omega | decide) (show 0 ≤ 0 by first | omega | decide) (G_nam fun z162127 hz162127 => ?_)
                    have ez162127 : z162126.toInt ≥ z162127.toInt ∧ 4 ≥ z162127.toInt ∧ (z162127.toInt = z162126.toInt ∨ z162127.toInt = 4) := by have := gI_min hz162127; rw [show Int32.toInt 4 = 4 from by decide] at this; omega
                    have bz162127 : gB z162127 (-2147483648) 4 := ⟨by omega, by omega⟩
                    refine Gp_iast 0 hm162123 he162124 dr_cX17_findDepth_368 rfl (gB_inr (by omega) (by omega)) (fun F162128 e162129 n162130 => ?_)
                    obtain ⟨f162131, hf162131⟩ : ∃ z, z = upd f162125 g162057.toNatClampNeg z162127 := ⟨_, rfl⟩
                    rw [← hf162131] at e162129
                    have he162132 : F162128 q20069 = .inr (18, [.ref q158686, .ref q158687, .int p158688, .int p158689]) := (n162130 q20069 (rn_oa he162063 he162124)).trans he162063
                    have he162133 : F162128 q20068 = .inr (22, [.ref (γ 9 0), .ref (γ 9 1), .ref (γ 9 2), .ref (γ 9 3), .ref (γ 9 4), .ref (γ 9 5), .ref (γ 9 6), .ref (γ 9 7), .ref (γ 9 8), .int p162079, .int p162080, .int p162081, .int p162082, .int p162083, .int p162084, .ref (γ 9 15), .ref (γ 9 16), .ref (γ 9 17), .ref (γ 9 18), .ref (γ 9 19), .ref (γ 9 20), .ref (γ 9 21), .ref (γ 9 22), .int p162085, .int p162086, .int p162087, .int p162088, .int p162089, .ref q162077, .ref (γ 9 29), .int p162090, .ref (γ 9 31), .int p162091, .int p162092, .int p162093, .ref q162078]) := (n162130 q20068 (rn_oa he162076 he162124)).trans he162076
                    have he162134 : F162128 (γ 9 4) = .inl (I .int, 40, .inl f162131) := e162129
                    have hs162135 : rStr γ [] F20067 F162128 := rStr_put hs162060 n162130 ht162100 (by decide)
                    obtain ⟨z162136, hz162136⟩ : ∃ z : Int32, z = g162057 + Int32.ofInt 1 := ⟨_, rfl⟩
                    have ez162136 : z162136.toInt = g162057.toInt + 1 := gI_inc hz162136 (by decide) bg162057' (by decide) (by decide)
                    have bz162136 : gB z162136 1 1000000 := ⟨by omega, by omega⟩
                    refine G_iinc (L' := [(4, .int z162136), (2, .long ol158720), (0, .ref q20068), (1, .ref q20069)]) z162136 0 dr_cX17_findDepth_369 rfl hz162136.symm (Nat.le_of_ble_eq_true rfl) rfl ?_
                    refine G_goto 342 dr_cX17_findDepth_372 (by decide +kernel) ?_
                    have hT162137 : RS D I P20066 F162128 γ el := RS_set hT162059 n162130 ht162100 (by decide) ⟨f162131, he162134⟩
                    exact ih342_162060 F162128 z162136 (gB_w bz162136 (by decide) (by decide)) hT162137 hs162135 (fun k e1 ht => kt342_162061 k e1 (fun R c1 c2 => c2 F162058 g162057 p158689 f162125 z162126 z162127 f162131 F162128 z162136 k e1 bg162057 hT162059 hs162060 fq162065 r162074 fq162122 he162124 hz162126 ez162127 hf162131 n162130 he162134 ez162136 (ht R c1 c2))) (by omega)
              exact hlp342_162060 (((1000001 : Int) - 0).toNat + 1) F161964 0 (gB_w (gBl (show Int32.toInt 0 = 0 by decide)) (by decide) (by decide)) hT161965 hs161966 (fun k e1 ht => ht) (Nat.lt_succ_self _)
            · have r162138 : g161963.toInt < p158689.toInt := gC_nle hc161977
              have bg161963' : gB g161963 0 999999 := ⟨by omega, by omega⟩
              have bp158689' : gB p158689 1 1000000 := ⟨by omega, by omega⟩
              refine G_lload_n 1 dr_cX17_findDepth_41 rfl ?_
              refine G_iload 0 dr_cX17_findDepth_42 rfl ?_
              refine G_lushr dr_cX17_findDepth_44 (G_namL fun u162139 hu162139 => ?_)
              refine G_lconst 1 dr_cX17_findDepth_45 rfl ?_
              refine G_land dr_cX17_findDepth_46 (G_namL fun u162140 hu162140 => ?_)
              refine G_lconst 0 dr_cX17_findDepth_47 rfl ?_
              refine G_lcmp dr_cX17_findDepth_48 (G_nam fun z162141 hz162141 => ?_)
              have bz162141 : gB z162141 (-1) 1 := gB_cmp hz162141
              refine G_if_ne 55 dr_cX17_findDepth_49 (by decide +kernel) (fun hc162142 => ?_) (fun hc162142 => ?_)
              · have r162143 : z162141.toInt ≠ 0 := gj_neq hc162142 (show Int32.toInt 0 = 0 by decide)
                have lhc162142 := gC_cmpN hz162141 hc162142
                refine G_lload_n 1 dr_cX17_findDepth_55 rfl ?_
                refine G_aload_n 3 dr_cX17_findDepth_56 rfl ?_
                refine G_iload 0 dr_cX17_findDepth_57 rfl ?_
                refine Gw_callS (As := [.ref q20069, .int g161963]) (gV_ok D I) (ct_12748_SpillForgeModel_reached l hl0 D I γ el P20066 F161964 q20069 g161963 hT161965 htq20069 (by omega)) dr_cX17_findDepth_59 ⟨wr_11_41, wr_1_14, wr_11_43, by decide, rfl, (Nat.le_of_ble_eq_true rfl), (Nat.le_of_ble_eq_true rfl)⟩ wr_11_42 (show 0 + 0 ≤ 0 by first | omega | decide) (show 0 + 0 ≤ 0 by first | omega | decide) (Nat.le_of_ble_eq_true rfl) (fun r162147 w162148 dc162144 ds162145 hp162146 => ?_) (fun _ _ _ _ _ z => z.elim)
                obtain ⟨ol162149, rfl, rfl, hdc, hds, ht162150⟩ := hp162146
                change G _ _ _ _ _ _ _ (.long ol162149 :: _) _ _ _
                refine G_widen (cs' := 0) (sl' := 0) (by omega) (by omega) ?_
                refine G_ldc2 (-1) dr_cX17_findDepth_62 wr_10_188 ?_
                refine G_lxor dr_cX17_findDepth_65 (G_namL fun u162151 hu162151 => ?_)
                refine G_land dr_cX17_findDepth_66 (G_namL fun u162152 hu162152 => ?_)
                refine G_lstore (L' := [(5, .long u162152), (4, .int g161963), (2, .long ol158720), (0, .ref q20068), (1, .ref q20069)]) dr_cX17_findDepth_67 (Nat.le_of_ble_eq_true rfl) rfl ?_
                refine G_lconst 0 dr_cX17_findDepth_69 rfl ?_
                refine G_lstore (L' := [(7, .long 0), (5, .long u162152), (4, .int g161963), (2, .long ol158720), (0, .ref q20068), (1, .ref q20069)]) dr_cX17_findDepth_70 (Nat.le_of_ble_eq_true rfl) rfl ?_
                refine G_iconst 0 dr_cX17_findDepth_72 (by decide +kernel) ?_
                refine G_istore (L' := [(9, .int 0), (7, .long 0), (5, .long u162152), (4, .int g161963), (2, .long ol158720), (0, .ref q20068), (1, .ref q20069)]) dr_cX17_findDepth_73 (Nat.le_of_ble_eq_true rfl) rfl ?_
                have hlp75_163681 : ∀ (n75_163681 : Nat) (g163680 : Int32) (gl163681 : Int64), gB g163680 0 1000000 → (∀ (k : Nat) (e1 : Int64), tl_RModel_findDepth_75 D I γ el F161964 q20069 u162152 g161963 g163680 gl163681 k e1 → tl_RModel_findDepth_75 D I γ el F161964 q20069 u162152 g161963 (0 : Int32) (0 : Int64) k e1) → ((1000001 : Int) - g163680.toInt).toNat < n75_163681 → G (gV D I) l (gRm 5 112 0 0) (gMA (gV D I) (pt_20071_SpillForgeModel_findDepth D I γ el P20066 F20067 q20068 q20069) gNA 0 0) ky_20071_SpillForgeModel_findDepth 75 [(9, .int g163680), (7, .long gl163681), (5, .long u162152), (4, .int g161963), (2, .long ol158720), (0, .ref q20068), (1, .ref q20069)] [] (va_pl P20066 F161964) 0 0 := by
                  intro n75_163681
                  induction n75_163681 with
                  | zero => intro g163680 gl163681 bg163680 kt75_163682 hm75_163681; exact absurd hm75_163681 (Nat.not_lt_zero _)
                  | succ n75_163681 ih75_163681 =>
                    intro g163680 gl163681 bg163680 kt75_163682 hm75_163681
                    refine G_iload 0 dr_cX17_findDepth_75 rfl ?_
                    refine G_aload_n 6 dr_cX17_findDepth_77 rfl ?_
                    have fq163683 : fI (F161964 q20069) 3 = p158689 := by rw [he161969]; rfl
                    refine Gw_callV (As := []) (gV_ok D I) (cp_12780_Code_size l hl0 D I P20066 F161964 q20069 q158686 q158687 p158688 p158689 hm158684 he161969) dr_cX17_findDepth_78 ⟨wr_10_160, wr_1_15, wr_9_131, by decide, rfl, (Nat.le_of_ble_eq_true rfl), (Nat.le_of_ble_eq_true rfl)⟩ wr_9_129 wr_9_130 hm158684 he161969 rfl (show 0 + 0 ≤ 0 by first | omega | decide) (show 0 + 0 ≤ 0 by first | omega | decide) (Nat.le_of_ble_eq_true rfl) (fun r163687 w163688 dc163684 ds163685 hp163686 => ?_) (fun _ _ _ _ _ z => z.elim)
                    obtain ⟨rfl, rfl, hdc, hds⟩ := hp163686
                    change G _ _ _ _ _ _ _ (.int p158689 :: _) _ _ _
                    refine G_widen (cs' := 0) (sl' := 0) (by omega) (by omega) ?_
                    refine G_icmp_ge 125 dr_cX17_findDepth_81 (by decide +kernel) (fun hc163689 => ?_) (fun hc163689 => ?_)
                    · have r163690 : p158689.toInt ≤ g163680.toInt := gC_le hc163689
                      have bg163680' : gB g163680 1 1000000 := ⟨by omega, by omega⟩
                      have hx163691 : tl_RModel_findDepth_75 D I γ el F161964 q20069 u162152 g161963 (0 : Int32) (0 : Int64) 125 gl163681 := kt75_163682 125 gl163681 (fun R c1 c2 c3 c4 => c1 g163680 gl163681 p158689 bg163680 fq163683 r163690)
                      refine G_lload 1 dr_cX17_findDepth_125 rfl ?_
                      refine G_lconst 0 dr_cX17_findDepth_127 rfl ?_
                      refine G_lcmp dr_cX17_findDepth_128 (G_nam fun z163692 hz163692 => ?_)
                      have bz163692 : gB z163692 (-1) 1 := gB_cmp hz163692
                      refine G_if_ne 135 dr_cX17_findDepth_129 (by decide +kernel) (fun hc163693 => ?_) (fun hc163693 => ?_)
                      · have r163694 : z163692.toInt ≠ 0 := gj_neq hc163693 (show Int32.toInt 0 = 0 by decide)
                        have lhc163693 := gC_cmpN hz163692 hc163693
                        refine G_lload 1 dr_cX17_findDepth_135 rfl ?_
                        refine G_lconst 1 dr_cX17_findDepth_137 rfl ?_
                        refine G_iload 3 dr_cX17_findDepth_138 rfl ?_
                        refine G_lshl dr_cX17_findDepth_140 (G_namL fun u163695 hu163695 => ?_)
                        have qu163695 : lb_Q u163695 (g161963.toInt % 64 + 1) := lb_Qshl hu163695 (by omega)
                        refine G_lor dr_cX17_findDepth_141 (G_namL fun u163696 hu163696 => ?_)
                        have pmu163696 : rpop gl163681 ≤ rpop u163696 := rpop_or hu163696
                        refine G_lstore (L' := [(7, .long u163696), (9, .int g163680), (5, .long u162152), (4, .int g161963), (2, .long ol158720), (0, .ref q20068), (1, .ref q20069)]) dr_cX17_findDepth_142 (Nat.le_of_ble_eq_true rfl) rfl ?_
                        refine G_iconst 1 dr_cX17_findDepth_144 (by decide +kernel) ?_
                        refine G_istore (L' := [(9, .int 1), (7, .long u163696), (5, .long u162152), (4, .int g161963), (2, .long ol158720), (0, .ref q20068), (1, .ref q20069)]) dr_cX17_findDepth_145 (Nat.le_of_ble_eq_true rfl) rfl ?_
                        have hlp147_164418 : ∀ (n147_164418 : Nat) (g164416 : Int32) (gl164417 : Int64), gB g164416 0 1 → rpop gl164417 ≤ 64 → (∀ (k : Nat) (e1 : Int64), tl_RModel_findDepth_147 D I γ el F161964 q20069 ol158720 g161963 g164416 gl164417 k e1 → tl_RModel_findDepth_147 D I γ el F161964 q20069 ol158720 g161963 (1 : Int32) u163696 k e1) → (64 - rpop gl164417) + ((g164416.toInt : Int)).toNat < n147_164418 → G (gV D I) l (gRm 5 112 0 0) (gMA (gV D I) (pt_20071_SpillForgeModel_findDepth D I γ el P20066 F20067 q20068 q20069) gNA 0 0) ky_20071_SpillForgeModel_findDepth 147 [(9, .int g164416), (7, .long gl164417), (5, .long u162152), (4, .int g161963), (2, .long ol158720), (0, .ref q20068), (1, .ref q20069)] [] (va_pl P20066 F161964) 0 0 := by
                          intro n147_164418
                          induction n147_164418 with
                          | zero => intro g164416 gl164417 bg164416 x164418 kt147_164419 hm147_164418; exact absurd hm147_164418 (Nat.not_lt_zero _)
                          | succ n147_164418 ih147_164418 =>
                            intro g164416 gl164417 bg164416 x164418 kt147_164419 hm147_164418
                            refine G_iload 0 dr_cX17_findDepth_147 rfl ?_
                            refine G_if_eq 297 dr_cX17_findDepth_149 (by decide +kernel) (fun hc164420 => ?_) (fun hc164420 => ?_)
                            · have r164421 : g164416.toInt = 0 := gj_eq hc164420 (show Int32.toInt 0 = 0 by decide)
                              have bg164416' : gB g164416 0 0 := ⟨by omega, by omega⟩
                              have hx164422 : tl_RModel_findDepth_147 D I γ el F161964 q20069 ol158720 g161963 (1 : Int32) u163696 297 gl164417 := kt147_164419 297 gl164417 (fun R c1 c2 => c1 g164416 gl164417 bg164416 x164418 r164421)
                              refine G_iconst 0 dr_cX17_findDepth_297 (by decide +kernel) ?_
                              refine G_istore (L' := [(10, .int 0), (9, .int g164416), (7, .long gl164417), (5, .long u162152), (4, .int g161963), (2, .long ol158720), (0, .ref q20068), (1, .ref q20069)]) dr_cX17_findDepth_298 (Nat.le_of_ble_eq_true rfl) rfl ?_
                              have hlp300_164507 : ∀ (n300_164507 : Nat) (F164505 : Nat → va_E) (g164504 : Int32), gB g164504 0 1000000 → RS D I P20066 F164505 γ el → rStr γ [] F20067 F164505 → (∀ (k : Nat) (e1 : Nat → va_E), tl_RModel_findDepth_300 D I γ el P20066 F20067 q20069 q20068 gl164417 F164505 g164504 k e1 → tl_RModel_findDepth_300 D I γ el P20066 F20067 q20069 q20068 gl164417 F161964 (0 : Int32) k e1) → ((1000001 : Int) - g164504.toInt).toNat < n300_164507 → G (gV D I) l (gRm 5 112 0 0) (gMA (gV D I) (pt_20071_SpillForgeModel_findDepth D I γ el P20066 F20067 q20068 q20069) gNA 0 0) ky_20071_SpillForgeModel_findDepth 300 [(10, .int g164504), (9, .int g164416), (7, .long gl164417), (5, .long u162152), (4, .int g161963), (2, .long ol158720), (0, .ref q20068), (1, .ref q20069)] [] (va_pl P20066 F164505) 0 0 := by
                                intro n300_164507
                                induction n300_164507 with
                                | zero => intro F164505 g164504 bg164504 hT164506 hs164507 kt300_164508 hm300_164507; exact absurd hm300_164507 (Nat.not_lt_zero _)
                                | succ n300_164507 ih300_164507 =>
                                  intro F164505 g164504 bg164504 hT164506 hs164507 kt300_164508 hm300_164507
                                  have hs164509 : rStr γ [] F161964 F164505 := fun b h0 hb hw => (hs164507 b h0 hb hw).trans (hs161966 b h0 hb hw).symm
                                  have he164510 : F164505 q20069 = .inr (18, [.ref q158686, .ref q158687, .int p158688, .int p158689]) := (hs164509 q20069 (rT0 htq20069 (by decide)) (rT1 htq20069 (by decide)) (rT2 htq20069 (by decide))).trans he161969
                                  have hs164511 : rStr γ [] F20067 F164505 := rStr_tr hs161966 hs164509
                                  refine G_iload 0 dr_cX17_findDepth_300 rfl ?_
                                  refine G_aload_n 7 dr_cX17_findDepth_302 rfl ?_
                                  have fq164512 : fI (F164505 q20069) 3 = p158689 := by rw [he164510]; rfl
                                  refine Gw_callV (As := []) (gV_ok D I) (cp_12780_Code_size l hl0 D I P20066 F164505 q20069 q158686 q158687 p158688 p158689 hm158684 he164510) dr_cX17_findDepth_303 ⟨wr_10_160, wr_1_15, wr_9_131, by decide, rfl, (Nat.le_of_ble_eq_true rfl), (Nat.le_of_ble_eq_true rfl)⟩ wr_9_129 wr_9_130 hm158684 he164510 rfl (show 0 + 0 ≤ 0 by first | omega | decide) (show 0 + 0 ≤ 0 by first | omega | decide) (Nat.le_of_ble_eq_true rfl) (fun r164516 w164517 dc164513 ds164514 hp164515 => ?_) (fun _ _ _ _ _ z => z.elim)
                                  obtain ⟨rfl, rfl, hdc, hds⟩ := hp164515
                                  change G _ _ _ _ _ _ _ (.int p158689 :: _) _ _ _
                                  refine G_widen (cs' := 0) (sl' := 0) (by omega) (by omega) ?_
                                  refine G_icmp_ge 333 dr_cX17_findDepth_306 (by decide +kernel) (fun hc164518 => ?_) (fun hc164518 => ?_)
                                  · have r164519 : p158689.toInt ≤ g164504.toInt := gC_le hc164518
                                    have bg164504' : gB g164504 1 1000000 := ⟨by omega, by omega⟩
                                    have hx164520 : tl_RModel_findDepth_300 D I γ el P20066 F20067 q20069 q20068 gl164417 F161964 (0 : Int32) 333 F164505 := kt300_164508 333 F164505 (fun R c1 c2 => c1 F164505 g164504 p158689 bg164504 hT164506 hs164507 fq164512 r164519)
                                    obtain ⟨z164521, hz164521⟩ : ∃ z : Int32, z = g161963 + Int32.ofInt 1 := ⟨_, rfl⟩
                                    have ez164521 : z164521.toInt = g161963.toInt + 1 := gI_inc hz164521 (by decide) bg161963' (by decide) (by decide)
                                    have bz164521 : gB z164521 1 1000000 := ⟨by omega, by omega⟩
                                    refine G_iinc (L' := [(4, .int z164521), (10, .int g164504), (9, .int g164416), (7, .long gl164417), (5, .long u162152), (2, .long ol158720), (0, .ref q20068), (1, .ref q20069)]) z164521 4 dr_cX17_findDepth_333 rfl hz164521.symm (Nat.le_of_ble_eq_true rfl) rfl ?_
                                    refine G_goto 32 dr_cX17_findDepth_336 (by decide +kernel) ?_
                                    refine G_lv (L' := [(4, .int z164521), (2, .long ol158720), (0, .ref q20068), (1, .ref q20069)]) [0, 5, 6, 7] rfl ?_
                                    exact ih32_161966 F164505 z164521 (gB_w bz164521 (by decide) (by decide)) hT164506 hs164507 (fun k e1 ht => kt32_161967 k e1 (fun R c1 c2 c3 c4 => c2 F161964 g161963 p158689 u162139 u162140 ol162149 u162151 u162152 gl163681 u163695 u163696 gl164417 F164505 z164521 k e1 bg161963 hT161965 hs161966 fq161971 r162138 hu162139 hu162140 lhc162142 ht162150 hu162151 hu162152 hx163691 lhc163693 hu163695 hu163696 hx164422 hx164520 ez164521 (ht R c1 c2 c3 c4))) (by omega)
                                  · have r164522 : g164504.toInt < p158689.toInt := gC_nle hc164518
                                    have bg164504' : gB g164504 0 999999 := ⟨by omega, by omega⟩
                                    refine G_aload_n 6 dr_cX17_findDepth_309 rfl ?_
                                    have hm164523 : q20068 ∈ P20066 := RS_m hT164506 htq20068 (by decide)
                                    obtain ⟨q164525, q164526, p164527, p164528, p164529, p164530, p164531, p164532, p164533, p164534, p164535, p164536, p164537, p164538, p164539, p164540, p164541, he164524, hB164568, ht164542, ht164543, ht164544, ht164545, ht164546, ht164547, ht164548, ht164549, ht164550, ht164551, ht164552, ht164553, ht164554, ht164555, ht164556, ht164557, ht164558, ht164559, ht164560, ht164561, ht164562, ht164563, ht164564, ht164565, hB164569⟩ := show rk_10 γ (F164505 q20068) from RS_o hT164506 htq20068
                                    have fq164570 : fR (F164505 q20068) 4 = (γ 9 4) := by rw [he164524]; rfl
                                    refine Gp_get 4 hm164523 he164524 dr_cX17_findDepth_310 (gk_X17 D I) (Nat.le_of_ble_eq_true rfl) wr_7_78 rfl ?_
                                    refine G_iload 0 dr_cX17_findDepth_313 rfl ?_
                                    refine G_dup2_11 dr_cX17_findDepth_315 rfl rfl ?_
                                    have hm164571 : (γ 9 4) ∈ P20066 := RS_m hT164506 ht164548 (by decide)
                                    obtain ⟨f164573, he164572⟩ := show rk_16 I (F164505 (γ 9 4)) from RS_o hT164506 ht164548
                                    refine Gp_iald 0 hm164571 he164572 dr_cX17_findDepth_316 rfl (gB_inr (by omega) (by omega)) (G_nam fun z164574 hz164574 => ?_)
                                    have bz164574 : gB z164574 (-2147483648) 2147483647 := gB_any z164574
                                    refine G_lload 2 dr_cX17_findDepth_317 rfl ?_
                                    refine G_iload 0 dr_cX17_findDepth_319 rfl ?_
                                    refine G_lushr dr_cX17_findDepth_321 (G_namL fun u164575 hu164575 => ?_)
                                    refine G_lconst 1 dr_cX17_findDepth_322 rfl ?_
                                    refine G_land dr_cX17_findDepth_323 (G_namL fun u164576 hu164576 => ?_)
                                    refine G_l2i dr_cX17_findDepth_324 (G_nam fun z164577 hz164577 => ?_)
                                    have bz164577 : gB z164577 (-2147483648) 2147483647 := gB_any z164577
                                    refine G_iadd dr_cX17_findDepth_325 (G_nam fun z164578 hz164578 => ?_)
                                    have bz164578 : gB z164578 (-2147483648) 2147483647 := gB_any z164578
                                    refine Gp_iast 0 hm164571 he164572 dr_cX17_findDepth_326 rfl (gB_inr (by omega) (by omega)) (fun F164579 e164580 n164581 => ?_)
                                    obtain ⟨f164582, hf164582⟩ : ∃ z, z = upd f164573 g164504.toNatClampNeg z164578 := ⟨_, rfl⟩
                                    rw [← hf164582] at e164580
                                    have he164583 : F164579 q20069 = .inr (18, [.ref q158686, .ref q158687, .int p158688, .int p158689]) := (n164581 q20069 (rn_oa he164510 he164572)).trans he164510
                                    have he164584 : F164579 q20068 = .inr (22, [.ref (γ 9 0), .ref (γ 9 1), .ref (γ 9 2), .ref (γ 9 3), .ref (γ 9 4), .ref (γ 9 5), .ref (γ 9 6), .ref (γ 9 7), .ref (γ 9 8), .int p164527, .int p164528, .int p164529, .int p164530, .int p164531, .int p164532, .ref (γ 9 15), .ref (γ 9 16), .ref (γ 9 17), .ref (γ 9 18), .ref (γ 9 19), .ref (γ 9 20), .ref (γ 9 21), .ref (γ 9 22), .int p164533, .int p164534, .int p164535, .int p164536, .int p164537, .ref q164525, .ref (γ 9 29), .int p164538, .ref (γ 9 31), .int p164539, .int p164540, .int p164541, .ref q164526]) := (n164581 q20068 (rn_oa he164524 he164572)).trans he164524
                                    have he164585 : F164579 (γ 9 4) = .inl (I .int, 40, .inl f164582) := e164580
                                    have hs164586 : rStr γ [] F20067 F164579 := rStr_put hs164507 n164581 ht164548 (by decide)
                                    obtain ⟨z164587, hz164587⟩ : ∃ z : Int32, z = g164504 + Int32.ofInt 1 := ⟨_, rfl⟩
                                    have ez164587 : z164587.toInt = g164504.toInt + 1 := gI_inc hz164587 (by decide) bg164504' (by decide) (by decide)
                                    have bz164587 : gB z164587 1 1000000 := ⟨by omega, by omega⟩
                                    refine G_iinc (L' := [(10, .int z164587), (9, .int g164416), (7, .long gl164417), (5, .long u162152), (4, .int g161963), (2, .long ol158720), (0, .ref q20068), (1, .ref q20069)]) z164587 0 dr_cX17_findDepth_327 rfl hz164587.symm (Nat.le_of_ble_eq_true rfl) rfl ?_
                                    refine G_goto 300 dr_cX17_findDepth_330 (by decide +kernel) ?_
                                    have hT164588 : RS D I P20066 F164579 γ el := RS_set hT164506 n164581 ht164548 (by decide) ⟨f164582, he164585⟩
                                    exact ih300_164507 F164579 z164587 (gB_w bz164587 (by decide) (by decide)) hT164588 hs164586 (fun k e1 ht => kt300_164508 k e1 (fun R c1 c2 => c2 F164505 g164504 p158689 f164573 z164574 u164575 u164576 z164577 z164578 f164582 F164579 z164587 k e1 bg164504 hT164506 hs164507 fq164512 r164522 fq164570 he164572 hz164574 hu164575 hu164576 hz164577 hz164578 hf164582 n164581 he164585 ez164587 (ht R c1 c2))) (by omega)
                              exact hlp300_164507 (((1000001 : Int) - 0).toNat + 1) F161964 0 (gB_w (gBl (show Int32.toInt 0 = 0 by decide)) (by decide) (by decide)) hT161965 hs161966 (fun k e1 ht => ht) (Nat.lt_succ_self _)
                            · have r164589 : g164416.toInt ≠ 0 := gj_neq hc164420 (show Int32.toInt 0 = 0 by decide)
                              have bg164416' : gB g164416 1 1 := ⟨by omega, by omega⟩
                              refine G_iconst 0 dr_cX17_findDepth_152 (by decide +kernel) ?_
                              refine G_istore (L' := [(9, .int 0), (7, .long gl164417), (5, .long u162152), (4, .int g161963), (2, .long ol158720), (0, .ref q20068), (1, .ref q20069)]) dr_cX17_findDepth_153 (Nat.le_of_ble_eq_true rfl) rfl ?_
                              refine G_iconst 0 dr_cX17_findDepth_155 (by decide +kernel) ?_
                              refine G_istore (L' := [(10, .int 0), (9, .int 0), (7, .long gl164417), (5, .long u162152), (4, .int g161963), (2, .long ol158720), (0, .ref q20068), (1, .ref q20069)]) dr_cX17_findDepth_156 (Nat.le_of_ble_eq_true rfl) rfl ?_
                              have hlp158_164868 : ∀ (n158_164868 : Nat) (g164864 : Int32) (g164865 : Int32) (gl164866 : Int64), gB g164864 0 1000000 → gB g164865 0 1 → rpop gl164866 ≤ 64 → rpop gl164417 + ((g164865.toInt : Int)).toNat ≤ rpop gl164866 → (∀ (k : Nat) (e1 : Int32) (e2 : Int64), tl_RModel_findDepth_158 D I γ el gl164417 F161964 q20069 ol158720 g161963 g164864 g164865 gl164866 k e1 e2 → tl_RModel_findDepth_158 D I γ el gl164417 F161964 q20069 ol158720 g161963 (0 : Int32) (0 : Int32) gl164417 k e1 e2) → ((1000001 : Int) - g164864.toInt).toNat < n158_164868 → G (gV D I) l (gRm 5 112 0 0) (gMA (gV D I) (pt_20071_SpillForgeModel_findDepth D I γ el P20066 F20067 q20068 q20069) gNA 0 0) ky_20071_SpillForgeModel_findDepth 158 [(10, .int g164864), (9, .int g164865), (7, .long gl164866), (5, .long u162152), (4, .int g161963), (2, .long ol158720), (0, .ref q20068), (1, .ref q20069)] [] (va_pl P20066 F161964) 0 0 := by
                                intro n158_164868
                                induction n158_164868 with
                                | zero => intro g164864 g164865 gl164866 bg164864 bg164865 x164867 x164868 kt158_164869 hm158_164868; exact absurd hm158_164868 (Nat.not_lt_zero _)
                                | succ n158_164868 ih158_164868 =>
                                  intro g164864 g164865 gl164866 bg164864 bg164865 x164867 x164868 kt158_164869 hm158_164868
                                  refine G_iload 0 dr_cX17_findDepth_158 rfl ?_
                                  refine G_aload_n 7 dr_cX17_findDepth_160 rfl ?_
                                  have fq164870 : fI (F161964 q20069) 3 = p158689 := by rw [he161969]; rfl
                                  refine Gw_callV (As := []) (gV_ok D I) (cp_12780_Code_size l hl0 D I P20066 F161964 q20069 q158686 q158687 p158688 p158689 hm158684 he161969) dr_cX17_findDepth_161 ⟨wr_10_160, wr_1_15, wr_9_131, by decide, rfl, (Nat.le_of_ble_eq_true rfl), (Nat.le_of_ble_eq_true rfl)⟩ wr_9_129 wr_9_130 hm158684 he161969 rfl (show 0 + 0 ≤ 0 by first | omega | decide) (show 0 + 0 ≤ 0 by first | omega | decide) (Nat.le_of_ble_eq_true rfl) (fun r164874 w164875 dc164871 ds164872 hp164873 => ?_) (fun _ _ _ _ _ z => z.elim)
                                  obtain ⟨rfl, rfl, hdc, hds⟩ := hp164873
                                  change G _ _ _ _ _ _ _ (.int p158689 :: _) _ _ _
                                  refine G_widen (cs' := 0) (sl' := 0) (by omega) (by omega) ?_
                                  refine G_icmp_ge 294 dr_cX17_findDepth_164 (by decide +kernel) (fun hc164876 => ?_) (fun hc164876 => ?_)
                                  · have r164877 : p158689.toInt ≤ g164864.toInt := gC_le hc164876
                                    have bg164864' : gB g164864 1 1000000 := ⟨by omega, by omega⟩
                                    have hx164878 : tl_RModel_findDepth_158 D I γ el gl164417 F161964 q20069 ol158720 g161963 (0 : Int32) (0 : Int32) gl164417 294 g164865 gl164866 := kt158_164869 294 g164865 gl164866 (fun R c1 c2 c3 c4 c5 => c1 g164864 g164865 gl164866 p158689 bg164864 bg164865 x164867 x164868 fq164870 r164877)
                                    refine G_goto 147 dr_cX17_findDepth_294 (by decide +kernel) ?_
                                    refine G_lv (L' := [(9, .int g164865), (7, .long gl164866), (5, .long u162152), (4, .int g161963), (2, .long ol158720), (0, .ref q20068), (1, .ref q20069)]) [1, 2, 3, 4, 5, 6, 7] rfl ?_
                                    exact ih147_164418 g164865 gl164866 bg164865 (rpop_le gl164866) (fun k e1 ht => kt147_164419 k e1 (fun R c1 c2 => c2 g164416 gl164417 g164865 gl164866 k e1 bg164416 x164418 r164589 hx164878 (ht R c1 c2))) (by omega)
                                  · have r164879 : g164864.toInt < p158689.toInt := gC_nle hc164876
                                    have bg164864' : gB g164864 0 999999 := ⟨by omega, by omega⟩
                                    refine G_lload 2 dr_cX17_findDepth_167 rfl ?_
                                    refine G_iload 0 dr_cX17_findDepth_169 rfl ?_
                                    refine G_lushr dr_cX17_findDepth_171 (G_namL fun u164880 hu164880 => ?_)
                                    refine G_lconst 1 dr_cX17_findDepth_172 rfl ?_
                                    refine G_land dr_cX17_findDepth_173 (G_namL fun u164881 hu164881 => ?_)
                                    refine G_lconst 0 dr_cX17_findDepth_174 rfl ?_
                                    refine G_lcmp dr_cX17_findDepth_175 (G_nam fun z164882 hz164882 => ?_)
                                    have bz164882 : gB z164882 (-1) 1 := gB_cmp hz164882
                                    refine G_if_ne 288 dr_cX17_findDepth_176 (by decide +kernel) (fun hc164883 => ?_) (fun hc164883 => ?_)
                                    · have r164884 : z164882.toInt ≠ 0 := gj_neq hc164883 (show Int32.toInt 0 = 0 by decide)
                                      have lhc164883 := gC_cmpN hz164882 hc164883
                                      obtain ⟨z164885, hz164885⟩ : ∃ z : Int32, z = g164864 + Int32.ofInt 1 := ⟨_, rfl⟩
                                      have ez164885 : z164885.toInt = g164864.toInt + 1 := gI_inc hz164885 (by decide) bg164864' (by decide) (by decide)
                                      have bz164885 : gB z164885 1 1000000 := ⟨by omega, by omega⟩
                                      refine G_iinc (L' := [(10, .int z164885), (9, .int g164865), (7, .long gl164866), (5, .long u162152), (4, .int g161963), (2, .long ol158720), (0, .ref q20068), (1, .ref q20069)]) z164885 0 dr_cX17_findDepth_288 rfl hz164885.symm (Nat.le_of_ble_eq_true rfl) rfl ?_
                                      refine G_goto 158 dr_cX17_findDepth_291 (by decide +kernel) ?_
                                      exact ih158_164868 z164885 g164865 gl164866 (gB_w bz164885 (by decide) (by decide)) bg164865 (rpop_le gl164866) (by omega) (fun k e1 e2 ht => kt158_164869 k e1 e2 (fun R c1 c2 c3 c4 c5 => c2 g164864 g164865 gl164866 p158689 u164880 u164881 z164885 k e1 e2 bg164864 bg164865 x164867 x164868 fq164870 r164879 hu164880 hu164881 lhc164883 ez164885 (ht R c1 c2 c3 c4 c5))) (by omega)
                                    · have r164886 : z164882.toInt = 0 := gj_eq hc164883 (show Int32.toInt 0 = 0 by decide)
                                      have bz164882' : gB z164882 0 0 := ⟨by omega, by omega⟩
                                      have lhc164883 := gC_cmpE hz164882 hc164883
                                      have zhc164883 := rbit_0 hu164880 hu164881 lhc164883 (by omega) (by omega)
                                      refine G_lload_n 5 dr_cX17_findDepth_179 rfl ?_
                                      refine G_iload 0 dr_cX17_findDepth_180 rfl ?_
                                      refine G_lushr dr_cX17_findDepth_182 (G_namL fun u164887 hu164887 => ?_)
                                      refine G_lconst 1 dr_cX17_findDepth_183 rfl ?_
                                      refine G_land dr_cX17_findDepth_184 (G_namL fun u164888 hu164888 => ?_)
                                      refine G_lconst 0 dr_cX17_findDepth_185 rfl ?_
                                      refine G_lcmp dr_cX17_findDepth_186 (G_nam fun z164889 hz164889 => ?_)
                                      have bz164889 : gB z164889 (-1) 1 := gB_cmp hz164889
                                      refine G_if_ne 193 dr_cX17_findDepth_187 (by decide +kernel) (fun hc164890 => ?_) (fun hc164890 => ?_)
                                      · have r164891 : z164889.toInt ≠ 0 := gj_neq hc164890 (show Int32.toInt 0 = 0 by decide)
                                        have lhc164890 := gC_cmpN hz164889 hc164890
                                        refine G_iconst 0 dr_cX17_findDepth_193 (by decide +kernel) ?_
                                        refine G_istore (L' := [(11, .int 0), (10, .int g164864), (9, .int g164865), (7, .long gl164866), (5, .long u162152), (4, .int g161963), (2, .long ol158720), (0, .ref q20068), (1, .ref q20069)]) dr_cX17_findDepth_194 (Nat.le_of_ble_eq_true rfl) rfl ?_
                                        refine G_iconst 0 dr_cX17_findDepth_196 (by decide +kernel) ?_
                                        refine G_istore (L' := [(12, .int 0), (11, .int 0), (10, .int g164864), (9, .int g164865), (7, .long gl164866), (5, .long u162152), (4, .int g161963), (2, .long ol158720), (0, .ref q20068), (1, .ref q20069)]) dr_cX17_findDepth_197 (Nat.le_of_ble_eq_true rfl) rfl ?_
                                        have hlp199_165017 : ∀ (n199_165017 : Nat) (g165016 : Int32) (g165017 : Int32), gB g165016 0 2 → gB g165017 0 1 → (∀ (k : Nat) (e1 : Int32), tl_RModel_findDepth_199 D I γ el F161964 q20069 g164864 g161963 gl164866 g165016 g165017 k e1 → tl_RModel_findDepth_199 D I γ el F161964 q20069 g164864 g161963 gl164866 (0 : Int32) (0 : Int32) k e1) → ((3 : Int) - g165016.toInt).toNat < n199_165017 → G (gV D I) l (gRm 5 112 0 0) (gMA (gV D I) (pt_20071_SpillForgeModel_findDepth D I γ el P20066 F20067 q20068 q20069) gNA 0 0) ky_20071_SpillForgeModel_findDepth 199 [(12, .int g165016), (11, .int g165017), (10, .int g164864), (9, .int g164865), (7, .long gl164866), (5, .long u162152), (4, .int g161963), (2, .long ol158720), (0, .ref q20068), (1, .ref q20069)] [] (va_pl P20066 F161964) 0 0 := by
                                          intro n199_165017
                                          induction n199_165017 with
                                          | zero => intro g165016 g165017 bg165016 bg165017 kt199_165018 hm199_165017; exact absurd hm199_165017 (Nat.not_lt_zero _)
                                          | succ n199_165017 ih199_165017 =>
                                            intro g165016 g165017 bg165016 bg165017 kt199_165018 hm199_165017
                                            refine G_iload 0 dr_cX17_findDepth_199 rfl ?_
                                            refine G_aload_n 9 dr_cX17_findDepth_201 rfl ?_
                                            refine G_iload 2 dr_cX17_findDepth_202 rfl ?_
                                            have hm165019 : q158686 ∈ P20066 := RS_m hT161965 ht158690 (by decide)
                                            obtain ⟨⟨p165021, p165022, q165023, he165020, r165024, r165025, r165026, r165028⟩, r165027⟩ := show rk_4 D I γ el F161964 q158686 from RS_o hT161965 ht158690
                                            have bp165021 := gB_any p165021
                                            have bp165022 : gB p165022 0 1000000 := ⟨by omega, by omega⟩
                                            obtain ⟨r165029, r165030, n165037, f165038, r165031, r165032, r165033, r165034, r165035, r165036⟩ := rLC_n r165026 (by omega)
                                            have hm165039 : q165023 ∈ P20066 := RS_m hT161965 r165029 (by decide)
                                            obtain ⟨q165040, hx165041⟩ : ∃ x, x = el q158686 g164864.toInt.toNat := ⟨_, rfl⟩
                                            have fq165045 : fR (F161964 q20069) 0 = q158686 := by rw [he161969]; rfl
                                            have hx165042 : f165038 g164864.toNatClampNeg = some q165040 := (r165035 _ (show g164864.toInt.toNat < γ 2 q158686 by omega)).trans (by rw [hx165041])
                                            have ht165046 : rKd γ q165040 2 := by rw [hx165041]; exact (r158701 _ (by omega)).resolve_right (fun z => absurd z.1 (by omega))
                                            have ht165047 : rFm γ q165040 q158686 := by rw [hx165041]; exact (r165027 _ (show g164864.toInt.toNat < γ 2 q158686 by omega)).2.1
                                            have hm165048 : q165040 ∈ P20066 := RS_m hT161965 ht165046 (by decide)
                                            obtain ⟨q165050, q165051, p165052, p165053, he165049, ht165060, ht165054, ht165055, ht165056, ht165057, ht165058, bp165052, bp165053, r165059, r165061, r165062⟩ := show rk_2 γ q165040 (F161964 q165040) from RS_o hT161965 ht165046
                                            have fq165063 : fI (F161964 q158686) 2 = p165022 := by rw [he165020]; rfl
                                            refine Gw_callV (As := [.int g164864]) (gV_ok D I) (cp_7901_Code_get l hl0 D I P20066 F161964 q20069 q158686 q165023 g164864 q158687 p158688 p158689 p165021 p165022 f165038 n165037 q165040 q165050 q165051 p165052 p165053 hm158684 hm165019 hm165039 hm165048 he161969 he165020 r165031 he165049 (gB_w bg164864' (by decide) (by decide)) (gB_w bp165022 (by decide) (by decide)) (by omega) (by omega) (by assumption) (by omega)) dr_cX17_findDepth_204 ⟨wr_10_161, wr_1_15, wr_10_141, by decide, rfl, (Nat.le_of_ble_eq_true rfl), (Nat.le_of_ble_eq_true rfl)⟩ wr_10_139 wr_10_140 hm158684 he161969 rfl (show 0 + 0 ≤ 0 by first | omega | decide) (show 0 + 0 ≤ 0 by first | omega | decide) (Nat.le_of_ble_eq_true rfl) (fun r165067 w165068 dc165064 ds165065 hp165066 => ?_) (fun _ _ _ _ _ z => z.elim)
                                            obtain ⟨rfl, rfl, hdc, hds, ht165069⟩ := hp165066
                                            change G _ _ _ _ _ _ _ (.ref q165040 :: _) _ _ _
                                            refine G_widen (cs' := 0) (sl' := 0) (by omega) (by omega) ?_
                                            have hm165070 : q165051 ∈ P20066 := RS_m hT161965 ht165056 (by decide)
                                            obtain ⟨p165072, p165073, p165074, p165075, p165076, p165077, p165078, he165071, bp165072, bp165073, bp165076, bp165077, bp165078, r165079, r165080, r165081, r165082, r165083⟩ := show rk_1 γ q165051 (F161964 q165051) from RS_o hT161965 ht165056
                                            have bp165074 := gB_any p165074
                                            have bp165075 := gB_any p165075
                                            have fq165084 : fI (F161964 q165040) 2 = p165052 := by rw [he165049]; rfl
                                            have fq165085 : fI (F161964 q165040) 3 = p165053 := by rw [he165049]; rfl
                                            have fq165086 : fR (F161964 q165040) 1 = q165051 := by rw [he165049]; rfl
                                            have fq165087 : fI (F161964 q165051) 0 = p165072 := by rw [he165071]; rfl
                                            refine Gw_callV (As := []) (gV_ok D I) (cp_1816_Block_ways l hl0 D I P20066 F161964 q165040 q165051 q165050 p165052 p165053 p165072 p165073 p165074 p165075 p165076 p165077 p165078 hm165048 hm165070 he165049 he165071 bp165052 bp165053 bp165072 bp165073 bp165076 bp165077 bp165078) dr_cX17_findDepth_207 ⟨wr_10_166, wr_1_38, wr_10_169, by decide, rfl, (Nat.le_of_ble_eq_true rfl), (Nat.le_of_ble_eq_true rfl)⟩ wr_10_167 wr_10_168 hm165048 he165049 rfl (show 0 + 0 ≤ 0 by first | omega | decide) (show 0 + 0 ≤ 0 by first | omega | decide) (Nat.le_of_ble_eq_true rfl) (fun r165091 w165092 dc165088 ds165089 hp165090 => ?_) (fun _ _ _ _ _ z => z.elim)
                                            obtain ⟨o165093, rfl, rfl, hdc, hds, bo165093, ht165094⟩ := hp165090
                                            change G _ _ _ _ _ _ _ (.int o165093 :: _) _ _ _
                                            refine G_widen (cs' := 0) (sl' := 0) (by omega) (by omega) ?_
                                            refine G_icmp_ge 268 dr_cX17_findDepth_210 (by decide +kernel) (fun hc165095 => ?_) (fun hc165095 => ?_)
                                            · have r165096 : o165093.toInt ≤ g165016.toInt := gC_le hc165095
                                              have hx165097 : tl_RModel_findDepth_199 D I γ el F161964 q20069 g164864 g161963 gl164866 (0 : Int32) (0 : Int32) 268 g165017 := kt199_165018 268 g165017 (fun R c1 c2 c3 c4 c5 => c1 g165016 g165017 q158686 q165040 p165022 p165052 p165053 q165051 p165072 o165093 bg165016 bg165017 fq165045 hx165041 fq165063 ht165069 fq165084 fq165085 fq165086 fq165087 bo165093 ht165094 r165096)
                                              refine G_iload 1 dr_cX17_findDepth_268 rfl ?_
                                              refine G_if_ne 276 dr_cX17_findDepth_270 (by decide +kernel) (fun hc165098 => ?_) (fun hc165098 => ?_)
                                              · have r165099 : g165017.toInt ≠ 0 := gj_neq hc165098 (show Int32.toInt 0 = 0 by decide)
                                                have bg165017' : gB g165017 1 1 := ⟨by omega, by omega⟩
                                                refine G_lload 4 dr_cX17_findDepth_276 rfl ?_
                                                refine G_lconst 1 dr_cX17_findDepth_278 rfl ?_
                                                refine G_iload 2 dr_cX17_findDepth_279 rfl ?_
                                                refine G_lshl dr_cX17_findDepth_281 (G_namL fun u165100 hu165100 => ?_)
                                                have qu165100 : lb_Q u165100 (g164864.toInt % 64 + 1) := lb_Qshl hu165100 (by omega)
                                                refine G_lor dr_cX17_findDepth_282 (G_namL fun u165101 hu165101 => ?_)
                                                have pmu165101 : rpop gl164866 ≤ rpop u165101 := rpop_or hu165101
                                                have pnu165101 : rpop gl164866 + 1 ≤ rpop u165101 := rpop_new hu165101 hu165100 (by omega) (by omega) zhc164883
                                                refine G_lstore (L' := [(7, .long u165101), (12, .int g165016), (11, .int g165017), (10, .int g164864), (9, .int g164865), (5, .long u162152), (4, .int g161963), (2, .long ol158720), (0, .ref q20068), (1, .ref q20069)]) dr_cX17_findDepth_283 (Nat.le_of_ble_eq_true rfl) rfl ?_
                                                refine G_iconst 1 dr_cX17_findDepth_285 (by decide +kernel) ?_
                                                refine G_istore (L' := [(9, .int 1), (7, .long u165101), (12, .int g165016), (11, .int g165017), (10, .int g164864), (5, .long u162152), (4, .int g161963), (2, .long ol158720), (0, .ref q20068), (1, .ref q20069)]) dr_cX17_findDepth_286 (Nat.le_of_ble_eq_true rfl) rfl ?_
                                                obtain ⟨z165102, hz165102⟩ : ∃ z : Int32, z = g164864 + Int32.ofInt 1 := ⟨_, rfl⟩
                                                have ez165102 : z165102.toInt = g164864.toInt + 1 := gI_inc hz165102 (by decide) bg164864' (by decide) (by decide)
                                                have bz165102 : gB z165102 1 1000000 := ⟨by omega, by omega⟩
                                                refine G_iinc (L' := [(10, .int z165102), (9, .int 1), (7, .long u165101), (12, .int g165016), (11, .int g165017), (5, .long u162152), (4, .int g161963), (2, .long ol158720), (0, .ref q20068), (1, .ref q20069)]) z165102 4 dr_cX17_findDepth_288 rfl hz165102.symm (Nat.le_of_ble_eq_true rfl) rfl ?_
                                                refine G_goto 158 dr_cX17_findDepth_291 (by decide +kernel) ?_
                                                refine G_lv (L' := [(10, .int z165102), (9, .int 1), (7, .long u165101), (5, .long u162152), (4, .int g161963), (2, .long ol158720), (0, .ref q20068), (1, .ref q20069)]) [0, 1, 2, 5, 6, 7, 8, 9] rfl ?_
                                                exact ih158_164868 z165102 1 u165101 (gB_w bz165102 (by decide) (by decide)) (gB_w (gBl (show Int32.toInt 1 = 1 by decide)) (by decide) (by decide)) (rpop_le u165101) (by have qa0 : Int32.toInt 1 = 1 := (by decide); omega) (fun k e1 e2 ht => kt158_164869 k e1 e2 (fun R c1 c2 c3 c4 c5 => c3 g164864 g164865 gl164866 p158689 u164880 u164881 u164887 u164888 g165017 u165100 u165101 z165102 k e1 e2 bg164864 bg164865 x164867 x164868 fq164870 r164879 hu164880 hu164881 lhc164883 hu164887 hu164888 lhc164890 hx165097 r165099 hu165100 hu165101 ez165102 (ht R c1 c2 c3 c4 c5))) (by have qa0 : Int32.toInt 1 = 1 := (by decide); omega)
                                              · have r165103 : g165017.toInt = 0 := gj_eq hc165098 (show Int32.toInt 0 = 0 by decide)
                                                have bg165017' : gB g165017 0 0 := ⟨by omega, by omega⟩
                                                refine G_goto 288 dr_cX17_findDepth_273 (by decide +kernel) ?_
                                                obtain ⟨z165104, hz165104⟩ : ∃ z : Int32, z = g164864 + Int32.ofInt 1 := ⟨_, rfl⟩
                                                have ez165104 : z165104.toInt = g164864.toInt + 1 := gI_inc hz165104 (by decide) bg164864' (by decide) (by decide)
                                                have bz165104 : gB z165104 1 1000000 := ⟨by omega, by omega⟩
                                                refine G_iinc (L' := [(10, .int z165104), (12, .int g165016), (11, .int g165017), (9, .int g164865), (7, .long gl164866), (5, .long u162152), (4, .int g161963), (2, .long ol158720), (0, .ref q20068), (1, .ref q20069)]) z165104 2 dr_cX17_findDepth_288 rfl hz165104.symm (Nat.le_of_ble_eq_true rfl) rfl ?_
                                                refine G_goto 158 dr_cX17_findDepth_291 (by decide +kernel) ?_
                                                refine G_lv (L' := [(10, .int z165104), (9, .int g164865), (7, .long gl164866), (5, .long u162152), (4, .int g161963), (2, .long ol158720), (0, .ref q20068), (1, .ref q20069)]) [0, 3, 4, 5, 6, 7, 8, 9] rfl ?_
                                                exact ih158_164868 z165104 g164865 gl164866 (gB_w bz165104 (by decide) (by decide)) bg164865 (rpop_le gl164866) (by omega) (fun k e1 e2 ht => kt158_164869 k e1 e2 (fun R c1 c2 c3 c4 c5 => c4 g164864 g164865 gl164866 p158689 u164880 u164881 u164887 u164888 g165017 z165104 k e1 e2 bg164864 bg164865 x164867 x164868 fq164870 r164879 hu164880 hu164881 lhc164883 hu164887 hu164888 lhc164890 hx165097 r165103 ez165104 (ht R c1 c2 c3 c4 c5))) (by omega)
                                            · have r165105 : g165016.toInt < o165093.toInt := gC_nle hc165095
                                              have bg165016' : gB g165016 0 1 := ⟨by omega, by omega⟩
                                              have bo165093' : gB o165093 1 2 := ⟨by omega, by omega⟩
                                              refine G_iload 1 dr_cX17_findDepth_213 rfl ?_
                                              refine G_if_ne 255 dr_cX17_findDepth_215 (by decide +kernel) (fun hc165106 => ?_) (fun hc165106 => ?_)
                                              · have r165107 : g165017.toInt ≠ 0 := gj_neq hc165106 (show Int32.toInt 0 = 0 by decide)
                                                have bg165017' : gB g165017 1 1 := ⟨by omega, by omega⟩
                                                refine G_iconst 1 dr_cX17_findDepth_255 (by decide +kernel) ?_
                                                refine G_goto 260 dr_cX17_findDepth_256 (by decide +kernel) ?_
                                                refine G_istore (L' := [(11, .int 1), (12, .int g165016), (10, .int g164864), (9, .int g164865), (7, .long gl164866), (5, .long u162152), (4, .int g161963), (2, .long ol158720), (0, .ref q20068), (1, .ref q20069)]) dr_cX17_findDepth_260 (Nat.le_of_ble_eq_true rfl) rfl ?_
                                                obtain ⟨z165108, hz165108⟩ : ∃ z : Int32, z = g165016 + Int32.ofInt 1 := ⟨_, rfl⟩
                                                have ez165108 : z165108.toInt = g165016.toInt + 1 := gI_inc hz165108 (by decide) bg165016' (by decide) (by decide)
                                                have bz165108 : gB z165108 1 2 := ⟨by omega, by omega⟩
                                                refine G_iinc (L' := [(12, .int z165108), (11, .int 1), (10, .int g164864), (9, .int g164865), (7, .long gl164866), (5, .long u162152), (4, .int g161963), (2, .long ol158720), (0, .ref q20068), (1, .ref q20069)]) z165108 1 dr_cX17_findDepth_262 rfl hz165108.symm (Nat.le_of_ble_eq_true rfl) rfl ?_
                                                refine G_goto 199 dr_cX17_findDepth_265 (by decide +kernel) ?_
                                                exact ih199_165017 z165108 1 (gB_w bz165108 (by decide) (by decide)) (gB_w (gBl (show Int32.toInt 1 = 1 by decide)) (by decide) (by decide)) (fun k e1 ht => kt199_165018 k e1 (fun R c1 c2 c3 c4 c5 => c2 g165016 g165017 q158686 q165040 p165022 p165052 p165053 q165051 p165072 o165093 z165108 k e1 bg165016 bg165017 fq165045 hx165041 fq165063 ht165069 fq165084 fq165085 fq165086 fq165087 bo165093 ht165094 r165105 r165107 ez165108 (ht R c1 c2 c3 c4 c5))) (by have qa0 : Int32.toInt 1 = 1 := (by decide); omega)
                                              · have r165109 : g165017.toInt = 0 := gj_eq hc165106 (show Int32.toInt 0 = 0 by decide)
                                                have bg165017' : gB g165017 0 0 := ⟨by omega, by omega⟩
                                                refine G_aload_n 9 dr_cX17_findDepth_218 rfl ?_
                                                refine G_iload 2 dr_cX17_findDepth_219 rfl ?_
                                                refine Gw_callV (As := [.int g164864]) (gV_ok D I) (cp_7901_Code_get l hl0 D I P20066 F161964 q20069 q158686 q165023 g164864 q158687 p158688 p158689 p165021 p165022 f165038 n165037 q165040 q165050 q165051 p165052 p165053 hm158684 hm165019 hm165039 hm165048 he161969 he165020 r165031 he165049 (gB_w bg164864' (by decide) (by decide)) (gB_w bp165022 (by decide) (by decide)) (by omega) (by omega) (by assumption) (by omega)) dr_cX17_findDepth_221 ⟨wr_10_161, wr_1_15, wr_10_141, by decide, rfl, (Nat.le_of_ble_eq_true rfl), (Nat.le_of_ble_eq_true rfl)⟩ wr_10_139 wr_10_140 hm158684 he161969 rfl (show 0 + 0 ≤ 0 by first | omega | decide) (show 0 + 0 ≤ 0 by first | omega | decide) (Nat.le_of_ble_eq_true rfl) (fun r165113 w165114 dc165110 ds165111 hp165112 => ?_) (fun _ _ _ _ _ z => z.elim)
                                                obtain ⟨rfl, rfl, hdc, hds, ht165115⟩ := hp165112
                                                change G _ _ _ _ _ _ _ (.ref q165040 :: _) _ _ _
                                                refine G_widen (cs' := 0) (sl' := 0) (by omega) (by omega) ?_
                                                refine G_iload 0 dr_cX17_findDepth_224 rfl ?_
                                                refine Gw_callV (As := [.int g165016]) (gV_ok D I) (cp_5159_Block_way l hl0 D I P20066 F161964 q165040 q165051 g165016 q165050 p165052 p165053 p165072 p165073 p165074 p165075 p165076 p165077 p165078 hm165048 hm165070 he165049 he165071 bp165052 bp165053 bp165072 bp165073 bp165076 bp165077 bp165078) dr_cX17_findDepth_226 ⟨wr_10_170, wr_1_38, wr_10_173, by decide, rfl, (Nat.le_of_ble_eq_true rfl), (Nat.le_of_ble_eq_true rfl)⟩ wr_10_171 wr_10_172 hm165048 he165049 rfl (show 0 + 0 ≤ 0 by first | omega | decide) (show 0 + 0 ≤ 0 by first | omega | decide) (Nat.le_of_ble_eq_true rfl) (fun r165119 w165120 dc165116 ds165117 hp165118 => ?_) (fun _ _ _ _ _ z => z.elim)
                                                obtain ⟨o165121, rfl, rfl, hdc, hds, bo165121, ht165122⟩ := hp165118
                                                change G _ _ _ _ _ _ _ (.int o165121 :: _) _ _ _
                                                refine G_widen (cs' := 0) (sl' := 0) (by omega) (by omega) ?_
                                                refine G_iload 6 dr_cX17_findDepth_229 rfl ?_
                                                refine G_icmp_eq 259 dr_cX17_findDepth_231 (by decide +kernel) (fun hc165123 => ?_) (fun hc165123 => ?_)
                                                · have r165124 : o165121.toInt = g161963.toInt := gC_eq hc165123
                                                  have bg161963'' : gB g161963 0 39 := ⟨by omega, by omega⟩
                                                  refine G_iconst 0 dr_cX17_findDepth_259 (by decide +kernel) ?_
                                                  refine G_istore (L' := [(11, .int 0), (12, .int g165016), (10, .int g164864), (9, .int g164865), (7, .long gl164866), (5, .long u162152), (4, .int g161963), (2, .long ol158720), (0, .ref q20068), (1, .ref q20069)]) dr_cX17_findDepth_260 (Nat.le_of_ble_eq_true rfl) rfl ?_
                                                  obtain ⟨z165125, hz165125⟩ : ∃ z : Int32, z = g165016 + Int32.ofInt 1 := ⟨_, rfl⟩
                                                  have ez165125 : z165125.toInt = g165016.toInt + 1 := gI_inc hz165125 (by decide) bg165016' (by decide) (by decide)
                                                  have bz165125 : gB z165125 1 2 := ⟨by omega, by omega⟩
                                                  refine G_iinc (L' := [(12, .int z165125), (11, .int 0), (10, .int g164864), (9, .int g164865), (7, .long gl164866), (5, .long u162152), (4, .int g161963), (2, .long ol158720), (0, .ref q20068), (1, .ref q20069)]) z165125 1 dr_cX17_findDepth_262 rfl hz165125.symm (Nat.le_of_ble_eq_true rfl) rfl ?_
                                                  refine G_goto 199 dr_cX17_findDepth_265 (by decide +kernel) ?_
                                                  exact ih199_165017 z165125 0 (gB_w bz165125 (by decide) (by decide)) (gB_w (gBl (show Int32.toInt 0 = 0 by decide)) (by decide) (by decide)) (fun k e1 ht => kt199_165018 k e1 (fun R c1 c2 c3 c4 c5 => c3 g165016 g165017 q158686 q165040 p165022 p165052 p165053 q165051 p165072 o165093 o165121 z165125 k e1 bg165016 bg165017 fq165045 hx165041 fq165063 ht165069 fq165084 fq165085 fq165086 fq165087 bo165093 ht165094 r165105 r165109 ht165115 bo165121 ht165122 r165124 ez165125 (ht R c1 c2 c3 c4 c5))) (by have qa0 : Int32.toInt 0 = 0 := (by decide); omega)
                                                · have r165126 : o165121.toInt ≠ g161963.toInt := gC_ne hc165123
                                                  refine G_lload 4 dr_cX17_findDepth_234 rfl ?_
                                                  refine G_aload_n 9 dr_cX17_findDepth_236 rfl ?_
                                                  refine G_iload 2 dr_cX17_findDepth_237 rfl ?_
                                                  refine Gw_callV (As := [.int g164864]) (gV_ok D I) (cp_7901_Code_get l hl0 D I P20066 F161964 q20069 q158686 q165023 g164864 q158687 p158688 p158689 p165021 p165022 f165038 n165037 q165040 q165050 q165051 p165052 p165053 hm158684 hm165019 hm165039 hm165048 he161969 he165020 r165031 he165049 (gB_w bg164864' (by decide) (by decide)) (gB_w bp165022 (by decide) (by decide)) (by omega) (by omega) (by assumption) (by omega)) dr_cX17_findDepth_239 ⟨wr_10_161, wr_1_15, wr_10_141, by decide, rfl, (Nat.le_of_ble_eq_true rfl), (Nat.le_of_ble_eq_true rfl)⟩ wr_10_139 wr_10_140 hm158684 he161969 rfl (show 0 + 0 ≤ 0 by first | omega | decide) (show 0 + 0 ≤ 0 by first | omega | decide) (Nat.le_of_ble_eq_true rfl) (fun r165130 w165131 dc165127 ds165128 hp165129 => ?_) (fun _ _ _ _ _ z => z.elim)
                                                  obtain ⟨rfl, rfl, hdc, hds, ht165132⟩ := hp165129
                                                  change G _ _ _ _ _ _ _ (.ref q165040 :: _) _ _ _
                                                  refine G_widen (cs' := 0) (sl' := 0) (by omega) (by omega) ?_
                                                  refine G_iload 0 dr_cX17_findDepth_242 rfl ?_
                                                  refine Gw_callV (As := [.int g165016]) (gV_ok D I) (cp_5159_Block_way l hl0 D I P20066 F161964 q165040 q165051 g165016 q165050 p165052 p165053 p165072 p165073 p165074 p165075 p165076 p165077 p165078 hm165048 hm165070 he165049 he165071 bp165052 bp165053 bp165072 bp165073 bp165076 bp165077 bp165078) dr_cX17_findDepth_244 ⟨wr_10_170, wr_1_38, wr_10_173, by decide, rfl, (Nat.le_of_ble_eq_true rfl), (Nat.le_of_ble_eq_true rfl)⟩ wr_10_171 wr_10_172 hm165048 he165049 rfl (show 0 + 0 ≤ 0 by first | omega | decide) (show 0 + 0 ≤ 0 by first | omega | decide) (Nat.le_of_ble_eq_true rfl) (fun r165136 w165137 dc165133 ds165134 hp165135 => ?_) (fun _ _ _ _ _ z => z.elim)
                                                  obtain ⟨o165138, rfl, rfl, hdc, hds, bo165138, ht165139⟩ := hp165135
                                                  change G _ _ _ _ _ _ _ (.int o165138 :: _) _ _ _
                                                  refine G_widen (cs' := 0) (sl' := 0) (by omega) (by omega) ?_
                                                  refine G_lushr dr_cX17_findDepth_247 (G_namL fun u165140 hu165140 => ?_)
                                                  refine G_lconst 1 dr_cX17_findDepth_248 rfl ?_
                                                  refine G_land dr_cX17_findDepth_249 (G_namL fun u165141 hu165141 => ?_)
                                                  refine G_lconst 0 dr_cX17_findDepth_250 rfl ?_
                                                  refine G_lcmp dr_cX17_findDepth_251 (G_nam fun z165142 hz165142 => ?_)
                                                  have bz165142 : gB z165142 (-1) 1 := gB_cmp hz165142
                                                  refine G_if_eq 259 dr_cX17_findDepth_252 (by decide +kernel) (fun hc165143 => ?_) (fun hc165143 => ?_)
                                                  · have r165144 : z165142.toInt = 0 := gj_eq hc165143 (show Int32.toInt 0 = 0 by decide)
                                                    have bz165142' : gB z165142 0 0 := ⟨by omega, by omega⟩
                                                    have lhc165143 := gC_cmpE hz165142 hc165143
                                                    have zhc165143 := rbit_0 hu165140 hu165141 lhc165143 (by omega) (by omega)
                                                    refine G_iconst 0 dr_cX17_findDepth_259 (by decide +kernel) ?_
                                                    refine G_istore (L' := [(11, .int 0), (12, .int g165016), (10, .int g164864), (9, .int g164865), (7, .long gl164866), (5, .long u162152), (4, .int g161963), (2, .long ol158720), (0, .ref q20068), (1, .ref q20069)]) dr_cX17_findDepth_260 (Nat.le_of_ble_eq_true rfl) rfl ?_
                                                    obtain ⟨z165145, hz165145⟩ : ∃ z : Int32, z = g165016 + Int32.ofInt 1 := ⟨_, rfl⟩
                                                    have ez165145 : z165145.toInt = g165016.toInt + 1 := gI_inc hz165145 (by decide) bg165016' (by decide) (by decide)
                                                    have bz165145 : gB z165145 1 2 := ⟨by omega, by omega⟩
                                                    refine G_iinc (L' := [(12, .int z165145), (11, .int 0), (10, .int g164864), (9, .int g164865), (7, .long gl164866), (5, .long u162152), (4, .int g161963), (2, .long ol158720), (0, .ref q20068), (1, .ref q20069)]) z165145 1 dr_cX17_findDepth_262 rfl hz165145.symm (Nat.le_of_ble_eq_true rfl) rfl ?_
                                                    refine G_goto 199 dr_cX17_findDepth_265 (by decide +kernel) ?_
                                                    exact ih199_165017 z165145 0 (gB_w bz165145 (by decide) (by decide)) (gB_w (gBl (show Int32.toInt 0 = 0 by decide)) (by decide) (by decide)) (fun k e1 ht => kt199_165018 k e1 (fun R c1 c2 c3 c4 c5 => c4 g165016 g165017 q158686 q165040 p165022 p165052 p165053 q165051 p165072 o165093 o165121 o165138 u165140 u165141 z165145 k e1 bg165016 bg165017 fq165045 hx165041 fq165063 ht165069 fq165084 fq165085 fq165086 fq165087 bo165093 ht165094 r165105 r165109 ht165115 bo165121 ht165122 r165126 ht165132 bo165138 ht165139 hu165140 hu165141 lhc165143 ez165145 (ht R c1 c2 c3 c4 c5))) (by have qa0 : Int32.toInt 0 = 0 := (by decide); omega)
                                                  · have r165146 : z165142.toInt ≠ 0 := gj_neq hc165143 (show Int32.toInt 0 = 0 by decide)
                                                    have lhc165143 := gC_cmpN hz165142 hc165143
                                                    refine G_iconst 1 dr_cX17_findDepth_255 (by decide +kernel) ?_
                                                    refine G_goto 260 dr_cX17_findDepth_256 (by decide +kernel) ?_
                                                    refine G_istore (L' := [(11, .int 1), (12, .int g165016), (10, .int g164864), (9, .int g164865), (7, .long gl164866), (5, .long u162152), (4, .int g161963), (2, .long ol158720), (0, .ref q20068), (1, .ref q20069)]) dr_cX17_findDepth_260 (Nat.le_of_ble_eq_true rfl) rfl ?_
                                                    obtain ⟨z165147, hz165147⟩ : ∃ z : Int32, z = g165016 + Int32.ofInt 1 := ⟨_, rfl⟩
                                                    have ez165147 : z165147.toInt = g165016.toInt + 1 := gI_inc hz165147 (by decide) bg165016' (by decide) (by decide)
                                                    have bz165147 : gB z165147 1 2 := ⟨by omega, by omega⟩
                                                    refine G_iinc (L' := [(12, .int z165147), (11, .int 1), (10, .int g164864), (9, .int g164865), (7, .long gl164866), (5, .long u162152), (4, .int g161963), (2, .long ol158720), (0, .ref q20068), (1, .ref q20069)]) z165147 1 dr_cX17_findDepth_262 rfl hz165147.symm (Nat.le_of_ble_eq_true rfl) rfl ?_
                                                    refine G_goto 199 dr_cX17_findDepth_265 (by decide +kernel) ?_
                                                    exact ih199_165017 z165147 1 (gB_w bz165147 (by decide) (by decide)) (gB_w (gBl (show Int32.toInt 1 = 1 by decide)) (by decide) (by decide)) (fun k e1 ht => kt199_165018 k e1 (fun R c1 c2 c3 c4 c5 => c5 g165016 g165017 q158686 q165040 p165022 p165052 p165053 q165051 p165072 o165093 o165121 o165138 u165140 u165141 z165147 k e1 bg165016 bg165017 fq165045 hx165041 fq165063 ht165069 fq165084 fq165085 fq165086 fq165087 bo165093 ht165094 r165105 r165109 ht165115 bo165121 ht165122 r165126 ht165132 bo165138 ht165139 hu165140 hu165141 lhc165143 ez165147 (ht R c1 c2 c3 c4 c5))) (by have qa0 : Int32.toInt 1 = 1 := (by decide); omega)
                                        exact hlp199_165017 (((3 : Int) - 0).toNat + 1) 0 0 (gB_w (gBl (show Int32.toInt 0 = 0 by decide)) (by decide) (by decide)) (gB_w (gBl (show Int32.toInt 0 = 0 by decide)) (by decide) (by decide)) (fun k e1 ht => ht) (Nat.lt_succ_self _)
                                      · have r165148 : z164889.toInt = 0 := gj_eq hc164890 (show Int32.toInt 0 = 0 by decide)
                                        have bz164889' : gB z164889 0 0 := ⟨by omega, by omega⟩
                                        have lhc164890 := gC_cmpE hz164889 hc164890
                                        refine G_goto 288 dr_cX17_findDepth_190 (by decide +kernel) ?_
                                        obtain ⟨z165149, hz165149⟩ : ∃ z : Int32, z = g164864 + Int32.ofInt 1 := ⟨_, rfl⟩
                                        have ez165149 : z165149.toInt = g164864.toInt + 1 := gI_inc hz165149 (by decide) bg164864' (by decide) (by decide)
                                        have bz165149 : gB z165149 1 1000000 := ⟨by omega, by omega⟩
                                        refine G_iinc (L' := [(10, .int z165149), (9, .int g164865), (7, .long gl164866), (5, .long u162152), (4, .int g161963), (2, .long ol158720), (0, .ref q20068), (1, .ref q20069)]) z165149 0 dr_cX17_findDepth_288 rfl hz165149.symm (Nat.le_of_ble_eq_true rfl) rfl ?_
                                        refine G_goto 158 dr_cX17_findDepth_291 (by decide +kernel) ?_
                                        exact ih158_164868 z165149 g164865 gl164866 (gB_w bz165149 (by decide) (by decide)) bg164865 (rpop_le gl164866) (by omega) (fun k e1 e2 ht => kt158_164869 k e1 e2 (fun R c1 c2 c3 c4 c5 => c5 g164864 g164865 gl164866 p158689 u164880 u164881 u164887 u164888 z165149 k e1 e2 bg164864 bg164865 x164867 x164868 fq164870 r164879 hu164880 hu164881 lhc164883 hu164887 hu164888 lhc164890 ez165149 (ht R c1 c2 c3 c4 c5))) (by omega)
                              exact hlp158_164868 (((1000001 : Int) - 0).toNat + 1) 0 0 gl164417 (gB_w (gBl (show Int32.toInt 0 = 0 by decide)) (by decide) (by decide)) (gB_w (gBl (show Int32.toInt 0 = 0 by decide)) (by decide) (by decide)) (rpop_le gl164417) (by have qa0 : Int32.toInt 0 = 0 := (by decide); omega) (fun k e1 e2 ht => ht) (Nat.lt_succ_self _)
                        exact hlp147_164418 ((64 - rpop u163696) + ((1 : Int)).toNat + 1) 1 u163696 (gB_w (gBl (show Int32.toInt 1 = 1 by decide)) (by decide) (by decide)) (rpop_le u163696) (fun k e1 ht => ht) (Nat.lt_succ_self _)
                      · have r165150 : z163692.toInt = 0 := gj_eq hc163693 (show Int32.toInt 0 = 0 by decide)
                        have bz163692' : gB z163692 0 0 := ⟨by omega, by omega⟩
                        have lhc163693 := gC_cmpE hz163692 hc163693
                        refine G_goto 333 dr_cX17_findDepth_132 (by decide +kernel) ?_
                        obtain ⟨z165151, hz165151⟩ : ∃ z : Int32, z = g161963 + Int32.ofInt 1 := ⟨_, rfl⟩
                        have ez165151 : z165151.toInt = g161963.toInt + 1 := gI_inc hz165151 (by decide) bg161963' (by decide) (by decide)
                        have bz165151 : gB z165151 1 1000000 := ⟨by omega, by omega⟩
                        refine G_iinc (L' := [(4, .int z165151), (9, .int g163680), (7, .long gl163681), (5, .long u162152), (2, .long ol158720), (0, .ref q20068), (1, .ref q20069)]) z165151 3 dr_cX17_findDepth_333 rfl hz165151.symm (Nat.le_of_ble_eq_true rfl) rfl ?_
                        refine G_goto 32 dr_cX17_findDepth_336 (by decide +kernel) ?_
                        refine G_lv (L' := [(4, .int z165151), (2, .long ol158720), (0, .ref q20068), (1, .ref q20069)]) [0, 4, 5, 6] rfl ?_
                        exact ih32_161966 F161964 z165151 (gB_w bz165151 (by decide) (by decide)) hT161965 hs161966 (fun k e1 ht => kt32_161967 k e1 (fun R c1 c2 c3 c4 => c3 F161964 g161963 p158689 u162139 u162140 ol162149 u162151 u162152 gl163681 z165151 k e1 bg161963 hT161965 hs161966 fq161971 r162138 hu162139 hu162140 lhc162142 ht162150 hu162151 hu162152 hx163691 lhc163693 ez165151 (ht R c1 c2 c3 c4))) (by omega)
                    · have r165152 : g163680.toInt < p158689.toInt := gC_nle hc163689
                      have bg163680' : gB g163680 0 999999 := ⟨by omega, by omega⟩
                      refine G_lload 2 dr_cX17_findDepth_84 rfl ?_
                      refine G_iload 0 dr_cX17_findDepth_86 rfl ?_
                      refine G_lushr dr_cX17_findDepth_88 (G_namL fun u165153 hu165153 => ?_)
                      refine G_lconst 1 dr_cX17_findDepth_89 rfl ?_
                      refine G_land dr_cX17_findDepth_90 (G_namL fun u165154 hu165154 => ?_)
                      refine G_lconst 0 dr_cX17_findDepth_91 rfl ?_
                      refine G_lcmp dr_cX17_findDepth_92 (G_nam fun z165155 hz165155 => ?_)
                      have bz165155 : gB z165155 (-1) 1 := gB_cmp hz165155
                      refine G_if_eq 119 dr_cX17_findDepth_93 (by decide +kernel) (fun hc165156 => ?_) (fun hc165156 => ?_)
                      · have r165157 : z165155.toInt = 0 := gj_eq hc165156 (show Int32.toInt 0 = 0 by decide)
                        have bz165155' : gB z165155 0 0 := ⟨by omega, by omega⟩
                        have lhc165156 := gC_cmpE hz165155 hc165156
                        obtain ⟨z165158, hz165158⟩ : ∃ z : Int32, z = g163680 + Int32.ofInt 1 := ⟨_, rfl⟩
                        have ez165158 : z165158.toInt = g163680.toInt + 1 := gI_inc hz165158 (by decide) bg163680' (by decide) (by decide)
                        have bz165158 : gB z165158 1 1000000 := ⟨by omega, by omega⟩
                        refine G_iinc (L' := [(9, .int z165158), (7, .long gl163681), (5, .long u162152), (4, .int g161963), (2, .long ol158720), (0, .ref q20068), (1, .ref q20069)]) z165158 0 dr_cX17_findDepth_119 rfl hz165158.symm (Nat.le_of_ble_eq_true rfl) rfl ?_
                        refine G_goto 75 dr_cX17_findDepth_122 (by decide +kernel) ?_
                        exact ih75_163681 z165158 gl163681 (gB_w bz165158 (by decide) (by decide)) (fun k e1 ht => kt75_163682 k e1 (fun R c1 c2 c3 c4 => c2 g163680 gl163681 p158689 u165153 u165154 z165158 k e1 bg163680 fq163683 r165152 hu165153 hu165154 lhc165156 ez165158 (ht R c1 c2 c3 c4))) (by omega)
                      · have r165159 : z165155.toInt ≠ 0 := gj_neq hc165156 (show Int32.toInt 0 = 0 by decide)
                        have lhc165156 := gC_cmpN hz165155 hc165156
                        refine G_aload_n 6 dr_cX17_findDepth_96 rfl ?_
                        refine G_iload 0 dr_cX17_findDepth_97 rfl ?_
                        have hm165160 : q158686 ∈ P20066 := RS_m hT161965 ht158690 (by decide)
                        obtain ⟨⟨p165162, p165163, q165164, he165161, r165165, r165166, r165167, r165169⟩, r165168⟩ := show rk_4 D I γ el F161964 q158686 from RS_o hT161965 ht158690
                        have bp165162 := gB_any p165162
                        have bp165163 : gB p165163 0 1000000 := ⟨by omega, by omega⟩
                        obtain ⟨r165170, r165171, n165178, f165179, r165172, r165173, r165174, r165175, r165176, r165177⟩ := rLC_n r165167 (by omega)
                        have hm165180 : q165164 ∈ P20066 := RS_m hT161965 r165170 (by decide)
                        obtain ⟨q165181, hx165182⟩ : ∃ x, x = el q158686 g163680.toInt.toNat := ⟨_, rfl⟩
                        have fq165186 : fR (F161964 q20069) 0 = q158686 := by rw [he161969]; rfl
                        have hx165183 : f165179 g163680.toNatClampNeg = some q165181 := (r165176 _ (show g163680.toInt.toNat < γ 2 q158686 by omega)).trans (by rw [hx165182])
                        have ht165187 : rKd γ q165181 2 := by rw [hx165182]; exact (r158701 _ (by omega)).resolve_right (fun z => absurd z.1 (by omega))
                        have ht165188 : rFm γ q165181 q158686 := by rw [hx165182]; exact (r165168 _ (show g163680.toInt.toNat < γ 2 q158686 by omega)).2.1
                        have hm165189 : q165181 ∈ P20066 := RS_m hT161965 ht165187 (by decide)
                        obtain ⟨q165191, q165192, p165193, p165194, he165190, ht165201, ht165195, ht165196, ht165197, ht165198, ht165199, bp165193, bp165194, r165200, r165202, r165203⟩ := show rk_2 γ q165181 (F161964 q165181) from RS_o hT161965 ht165187
                        have fq165204 : fI (F161964 q158686) 2 = p165163 := by rw [he165161]; rfl
                        refine Gw_callV (As := [.int g163680]) (gV_ok D I) (cp_7901_Code_get l hl0 D I P20066 F161964 q20069 q158686 q165164 g163680 q158687 p158688 p158689 p165162 p165163 f165179 n165178 q165181 q165191 q165192 p165193 p165194 hm158684 hm165160 hm165180 hm165189 he161969 he165161 r165172 he165190 (gB_w bg163680' (by decide) (by decide)) (gB_w bp165163 (by decide) (by decide)) (by omega) (by omega) (by assumption) (by omega)) dr_cX17_findDepth_99 ⟨wr_10_161, wr_1_15, wr_10_141, by decide, rfl, (Nat.le_of_ble_eq_true rfl), (Nat.le_of_ble_eq_true rfl)⟩ wr_10_139 wr_10_140 hm158684 he161969 rfl (show 0 + 0 ≤ 0 by first | omega | decide) (show 0 + 0 ≤ 0 by first | omega | decide) (Nat.le_of_ble_eq_true rfl) (fun r165208 w165209 dc165205 ds165206 hp165207 => ?_) (fun _ _ _ _ _ z => z.elim)
                        obtain ⟨rfl, rfl, hdc, hds, ht165210⟩ := hp165207
                        change G _ _ _ _ _ _ _ (.ref q165181 :: _) _ _ _
                        refine G_widen (cs' := 0) (sl' := 0) (by omega) (by omega) ?_
                        refine G_iload 3 dr_cX17_findDepth_102 rfl ?_
                        refine Gw_callS (As := [.ref q165181, .int g161963]) (gV_ok D I) (ct_7594_SpillForgeModel_leads l hl0 D I γ el P20066 F161964 q165181 g161963 hT161965 ht165187) dr_cX17_findDepth_104 ⟨wr_11_44, wr_1_14, wr_11_46, by decide, rfl, (Nat.le_of_ble_eq_true rfl), (Nat.le_of_ble_eq_true rfl)⟩ wr_11_45 (show 0 + 0 ≤ 0 by first | omega | decide) (show 0 + 0 ≤ 0 by first | omega | decide) (Nat.le_of_ble_eq_true rfl) (fun r165214 w165215 dc165211 ds165212 hp165213 => ?_) (fun _ _ _ _ _ z => z.elim)
                        obtain ⟨o165216, rfl, rfl, hdc, hds, bo165216, ht165217⟩ := hp165213
                        change G _ _ _ _ _ _ _ (.int o165216 :: _) _ _ _
                        refine G_widen (cs' := 0) (sl' := 0) (by omega) (by omega) ?_
                        refine G_if_eq 119 dr_cX17_findDepth_107 (by decide +kernel) (fun hc165218 => ?_) (fun hc165218 => ?_)
                        · have r165219 : o165216.toInt = 0 := gj_eq hc165218 (show Int32.toInt 0 = 0 by decide)
                          have bo165216' : gB o165216 0 0 := ⟨by omega, by omega⟩
                          obtain ⟨z165220, hz165220⟩ : ∃ z : Int32, z = g163680 + Int32.ofInt 1 := ⟨_, rfl⟩
                          have ez165220 : z165220.toInt = g163680.toInt + 1 := gI_inc hz165220 (by decide) bg163680' (by decide) (by decide)
                          have bz165220 : gB z165220 1 1000000 := ⟨by omega, by omega⟩
                          refine G_iinc (L' := [(9, .int z165220), (7, .long gl163681), (5, .long u162152), (4, .int g161963), (2, .long ol158720), (0, .ref q20068), (1, .ref q20069)]) z165220 0 dr_cX17_findDepth_119 rfl hz165220.symm (Nat.le_of_ble_eq_true rfl) rfl ?_
                          refine G_goto 75 dr_cX17_findDepth_122 (by decide +kernel) ?_
                          exact ih75_163681 z165220 gl163681 (gB_w bz165220 (by decide) (by decide)) (fun k e1 ht => kt75_163682 k e1 (fun R c1 c2 c3 c4 => c3 g163680 gl163681 p158689 u165153 u165154 q158686 q165181 p165163 o165216 z165220 k e1 bg163680 fq163683 r165152 hu165153 hu165154 lhc165156 fq165186 hx165182 fq165204 ht165210 bo165216 ht165217 r165219 ez165220 (ht R c1 c2 c3 c4))) (by omega)
                        · have r165221 : o165216.toInt ≠ 0 := gj_neq hc165218 (show Int32.toInt 0 = 0 by decide)
                          have bo165216' : gB o165216 1 1 := ⟨by omega, by omega⟩
                          refine G_lload 1 dr_cX17_findDepth_110 rfl ?_
                          refine G_lconst 1 dr_cX17_findDepth_112 rfl ?_
                          refine G_iload 0 dr_cX17_findDepth_113 rfl ?_
                          refine G_lshl dr_cX17_findDepth_115 (G_namL fun u165222 hu165222 => ?_)
                          have qu165222 : lb_Q u165222 (g163680.toInt % 64 + 1) := lb_Qshl hu165222 (by omega)
                          refine G_lor dr_cX17_findDepth_116 (G_namL fun u165223 hu165223 => ?_)
                          have pmu165223 : rpop gl163681 ≤ rpop u165223 := rpop_or hu165223
                          refine G_lstore (L' := [(7, .long u165223), (9, .int g163680), (5, .long u162152), (4, .int g161963), (2, .long ol158720), (0, .ref q20068), (1, .ref q20069)]) dr_cX17_findDepth_117 (Nat.le_of_ble_eq_true rfl) rfl ?_
                          obtain ⟨z165224, hz165224⟩ : ∃ z : Int32, z = g163680 + Int32.ofInt 1 := ⟨_, rfl⟩
                          have ez165224 : z165224.toInt = g163680.toInt + 1 := gI_inc hz165224 (by decide) bg163680' (by decide) (by decide)
                          have bz165224 : gB z165224 1 1000000 := ⟨by omega, by omega⟩
                          refine G_iinc (L' := [(9, .int z165224), (7, .long u165223), (5, .long u162152), (4, .int g161963), (2, .long ol158720), (0, .ref q20068), (1, .ref q20069)]) z165224 1 dr_cX17_findDepth_119 rfl hz165224.symm (Nat.le_of_ble_eq_true rfl) rfl ?_
                          refine G_goto 75 dr_cX17_findDepth_122 (by decide +kernel) ?_
                          exact ih75_163681 z165224 u165223 (gB_w bz165224 (by decide) (by decide)) (fun k e1 ht => kt75_163682 k e1 (fun R c1 c2 c3 c4 => c4 g163680 gl163681 p158689 u165153 u165154 q158686 q165181 p165163 o165216 u165222 u165223 z165224 k e1 bg163680 fq163683 r165152 hu165153 hu165154 lhc165156 fq165186 hx165182 fq165204 ht165210 bo165216 ht165217 r165221 hu165222 hu165223 ez165224 (ht R c1 c2 c3 c4))) (by omega)
                exact hlp75_163681 (((1000001 : Int) - 0).toNat + 1) 0 0 (gB_w (gBl (show Int32.toInt 0 = 0 by decide)) (by decide) (by decide)) (fun k e1 ht => ht) (Nat.lt_succ_self _)
              · have r165225 : z162141.toInt = 0 := gj_eq hc162142 (show Int32.toInt 0 = 0 by decide)
                have bz162141' : gB z162141 0 0 := ⟨by omega, by omega⟩
                have lhc162142 := gC_cmpE hz162141 hc162142
                refine G_goto 333 dr_cX17_findDepth_52 (by decide +kernel) ?_
                obtain ⟨z165226, hz165226⟩ : ∃ z : Int32, z = g161963 + Int32.ofInt 1 := ⟨_, rfl⟩
                have ez165226 : z165226.toInt = g161963.toInt + 1 := gI_inc hz165226 (by decide) bg161963' (by decide) (by decide)
                have bz165226 : gB z165226 1 1000000 := ⟨by omega, by omega⟩
                refine G_iinc (L' := [(4, .int z165226), (2, .long ol158720), (0, .ref q20068), (1, .ref q20069)]) z165226 0 dr_cX17_findDepth_333 rfl hz165226.symm (Nat.le_of_ble_eq_true rfl) rfl ?_
                refine G_goto 32 dr_cX17_findDepth_336 (by decide +kernel) ?_
                exact ih32_161966 F161964 z165226 (gB_w bz165226 (by decide) (by decide)) hT161965 hs161966 (fun k e1 ht => kt32_161967 k e1 (fun R c1 c2 c3 c4 => c4 F161964 g161963 p158689 u162139 u162140 z165226 k e1 bg161963 hT161965 hs161966 fq161971 r162138 hu162139 hu162140 lhc162142 ez165226 (ht R c1 c2 c3 c4))) (by omega)
        exact hlp32_161966 (((1000001 : Int) - 0).toNat + 1) F158678 0 (gB_w (gBl (show Int32.toInt 0 = 0 by decide)) (by decide) (by decide)) hT158679 hs158680 (fun k e1 ht => ht) (Nat.lt_succ_self _)
      · have r165227 : g158677.toInt < p158689.toInt := gC_nle hc158712
        have bg158677' : gB g158677 0 999999 := ⟨by omega, by omega⟩
        have bp158689' : gB p158689 1 1000000 := ⟨by omega, by omega⟩
        refine G_aload_n 1 dr_cX17_findDepth_10 rfl ?_
        have hm165228 : q20068 ∈ P20066 := RS_m hT158679 htq20068 (by decide)
        obtain ⟨q165230, q165231, p165232, p165233, p165234, p165235, p165236, p165237, p165238, p165239, p165240, p165241, p165242, p165243, p165244, p165245, p165246, he165229, hB165273, ht165247, ht165248, ht165249, ht165250, ht165251, ht165252, ht165253, ht165254, ht165255, ht165256, ht165257, ht165258, ht165259, ht165260, ht165261, ht165262, ht165263, ht165264, ht165265, ht165266, ht165267, ht165268, ht165269, ht165270, hB165274⟩ := show rk_10 γ (F158678 q20068) from RS_o hT158679 htq20068
        have fq165275 : fR (F158678 q20068) 4 = (γ 9 4) := by rw [he165229]; rfl
        refine Gp_get 4 hm165228 he165229 dr_cX17_findDepth_11 (gk_X17 D I) (Nat.le_of_ble_eq_true rfl) wr_7_78 rfl ?_
        refine G_iload_n 0 dr_cX17_findDepth_14 rfl ?_
        refine G_iconst 0 dr_cX17_findDepth_15 (by decide +kernel) ?_
        have hm165276 : (γ 9 4) ∈ P20066 := RS_m hT158679 ht165253 (by decide)
        obtain ⟨f165278, he165277⟩ := show rk_16 I (F158678 (γ 9 4)) from RS_o hT158679 ht165253
        refine Gp_iast 0 hm165276 he165277 dr_cX17_findDepth_16 rfl (gB_inr (by omega) (by omega)) (fun F165279 e165280 n165281 => ?_)
        obtain ⟨f165282, hf165282⟩ : ∃ z, z = upd f165278 g158677.toNatClampNeg 0 := ⟨_, rfl⟩
        rw [← hf165282] at e165280
        have he165283 : F165279 q20069 = .inr (18, [.ref q158686, .ref q158687, .int p158688, .int p158689]) := (n165281 q20069 (rn_oa he158685 he165277)).trans he158685
        have he165284 : F165279 q20068 = .inr (22, [.ref (γ 9 0), .ref (γ 9 1), .ref (γ 9 2), .ref (γ 9 3), .ref (γ 9 4), .ref (γ 9 5), .ref (γ 9 6), .ref (γ 9 7), .ref (γ 9 8), .int p165232, .int p165233, .int p165234, .int p165235, .int p165236, .int p165237, .ref (γ 9 15), .ref (γ 9 16), .ref (γ 9 17), .ref (γ 9 18), .ref (γ 9 19), .ref (γ 9 20), .ref (γ 9 21), .ref (γ 9 22), .int p165238, .int p165239, .int p165240, .int p165241, .int p165242, .ref q165230, .ref (γ 9 29), .int p165243, .ref (γ 9 31), .int p165244, .int p165245, .int p165246, .ref q165231]) := (n165281 q20068 (rn_oa he165229 he165277)).trans he165229
        have he165285 : F165279 (γ 9 4) = .inl (I .int, 40, .inl f165282) := e165280
        have hs165286 : rStr γ [] F20067 F165279 := rStr_put hs158680 n165281 ht165253 (by decide)
        obtain ⟨z165287, hz165287⟩ : ∃ z : Int32, z = g158677 + Int32.ofInt 1 := ⟨_, rfl⟩
        have ez165287 : z165287.toInt = g158677.toInt + 1 := gI_inc hz165287 (by decide) bg158677' (by decide) (by decide)
        have bz165287 : gB z165287 1 1000000 := ⟨by omega, by omega⟩
        refine G_iinc (L' := [(2, .int z165287), (0, .ref q20068), (1, .ref q20069)]) z165287 0 dr_cX17_findDepth_17 rfl hz165287.symm (Nat.le_of_ble_eq_true rfl) rfl ?_
        refine G_goto 2 dr_cX17_findDepth_20 (by decide +kernel) ?_
        have hT165288 : RS D I P20066 F165279 γ el := RS_set hT158679 n165281 ht165253 (by decide) ⟨f165282, he165285⟩
        exact ih2_158680 F165279 z165287 (gB_w bz165287 (by decide) (by decide)) hT165288 hs165286 (fun k e1 ht => kt2_158681 k e1 (fun R c1 c2 => c2 F158678 g158677 p158689 f165278 f165282 F165279 z165287 k e1 bg158677 hT158679 hs158680 fq158706 r165227 fq165275 he165277 hf165282 n165281 he165285 ez165287 (ht R c1 c2))) (by omega)
  exact hlp2_158680 (((1000001 : Int) - 0).toNat + 1) F20067 0 (gB_w (gBl (show Int32.toInt 0 = 0 by decide)) (by decide) (by decide)) hT (rStr_rf (γ := γ) (W := []) (F := F20067)) (fun k e1 ht => ht) (Nat.lt_succ_self _)
/- tr_RModel_step: result, F -/
def tr_RModel_step (D : va_G) (I : FieldType → ClassId) (γ el : Nat → Nat → Nat) (F : Nat → va_E) (q0 : Nat) (q1 : Nat) (o1 : Int32) (o2 : Nat → va_E) : Prop := ∀ R : (Int32) → (Nat → va_E) → Prop,
  (∀ (x1 : Int32) (x2 : Int32) (x3 : Int32) (x4 : Int32) (x5 : Int32) (x6 : Nat → Int32) (x7 : Nat → Int32) (x8 : Nat → va_E), fI (F q1) 0 = x1 → x1.toInt = 0 → fR (F q0) 20 = (γ 9 20) → fI (F q1) 1 = x2 → fI (F q1) 5 = x3 → fI (F q1) 2 = x4 → tr_RModel_value D I γ el F q0 x3 x4 x5 → F (γ 9 20) = .inl (I .int, 2000, .inl x6) → x7 = upd x6 x2.toNatClampNeg x5 → (∀ b, b ≠ (γ 9 20) → x8 b = F b) → x8 (γ 9 20) = .inl (I .int, 2000, .inl x7) → R (-1 : Int32) x8) →
  (∀ (x1 : Int32) (x2 : Int32) (x3 : Int32) (x4 : Nat) (x5 : Nat → Int32) (x6 : Nat) (x7 : Int32) (x8 : Nat → Int32) (x9 : Nat → Int32) (x10 : Nat → va_E) (x11 : Int32) (x12 : Int32) (x13 : Int32) (x14 : Nat → va_E), fI (F q1) 0 = x1 → x1.toInt = 20 → fR (F q0) 20 = (γ 9 20) → fI (F q1) 1 = x2 → fI (F q0) 27 = x3 → fR (F q0) 28 = x4 → F x4 = .inl (I .int, x6, .inl x5) → x7.toInt = (x6 : Nat) → x7.toInt ≤ x3.toInt → F (γ 9 20) = .inl (I .int, 2000, .inl x8) → x9 = upd x8 x2.toNatClampNeg 0 → (∀ b, b ≠ (γ 9 20) → x10 b = F b) → x10 (γ 9 20) = .inl (I .int, 2000, .inl x9) → fI (x10 q0) 27 = x3 → x11.toInt = x3.toInt + 1 → fR (x10 q0) 28 = x4 → x10 x4 = .inl (I .int, x6, .inl x5) → x12.toInt = (x6 : Nat) → (x11.toInt ≥ x13.toInt ∧ x12.toInt ≥ x13.toInt ∧ (x13.toInt = x11.toInt ∨ x13.toInt = x12.toInt)) → (∀ b, b ≠ q0 → x14 b = x10 b) → x14 q0 = cF (x10 q0) 27 (.int x13) → R (-1 : Int32) x14) →
  (∀ (x1 : Int32) (x2 : Int32) (x3 : Int32) (x4 : Nat) (x5 : Nat → Int32) (x6 : Nat) (x7 : Int32) (x8 : Int32) (x9 : Nat → Int32) (x10 : Nat → Int32) (x11 : Nat → va_E) (x12 : Int32) (x13 : Int32) (x14 : Int32) (x15 : Nat → va_E), fI (F q1) 0 = x1 → x1.toInt = 20 → fR (F q0) 20 = (γ 9 20) → fI (F q1) 1 = x2 → fI (F q0) 27 = x3 → fR (F q0) 28 = x4 → F x4 = .inl (I .int, x6, .inl x5) → x7.toInt = (x6 : Nat) → x3.toInt < x7.toInt → x8 = x5 x3.toNatClampNeg → F (γ 9 20) = .inl (I .int, 2000, .inl x9) → x10 = upd x9 x2.toNatClampNeg x8 → (∀ b, b ≠ (γ 9 20) → x11 b = F b) → x11 (γ 9 20) = .inl (I .int, 2000, .inl x10) → fI (x11 q0) 27 = x3 → x12.toInt = x3.toInt + 1 → fR (x11 q0) 28 = x4 → x11 x4 = .inl (I .int, x6, .inl x5) → x13.toInt = (x6 : Nat) → (x12.toInt ≥ x14.toInt ∧ x13.toInt ≥ x14.toInt ∧ (x14.toInt = x12.toInt ∨ x14.toInt = x13.toInt)) → (∀ b, b ≠ q0 → x15 b = x11 b) → x15 q0 = cF (x11 q0) 27 (.int x14) → R (-1 : Int32) x15) →
  (∀ (x1 : Int32) (x2 : Int32) (x3 : Int32) (x4 : Nat → Int32) (x5 : Int32) (x6 : Nat → Int32) (x7 : Nat → Int32) (x8 : Nat → va_E), fI (F q1) 0 = x1 → x1.toInt = 21 → fR (F q0) 20 = (γ 9 20) → fI (F q1) 1 = x2 → fR (F q0) 21 = (γ 9 21) → fI (F q1) 4 = x3 → F (γ 9 21) = .inl (I .int, 2000, .inl x4) → x5 = x4 x3.toNatClampNeg → F (γ 9 20) = .inl (I .int, 2000, .inl x6) → x7 = upd x6 x2.toNatClampNeg x5 → (∀ b, b ≠ (γ 9 20) → x8 b = F b) → x8 (γ 9 20) = .inl (I .int, 2000, .inl x7) → R (-1 : Int32) x8) →
  (∀ (x1 : Int32) (x2 : Int32) (x3 : Int32) (x4 : Int32) (x5 : Int32) (x6 : Nat → Int32) (x7 : Nat → Int32) (x8 : Nat → va_E) (x9 : Int32) (x10 : Nat → va_E), fI (F q1) 0 = x1 → x1.toInt = 22 → fI (F q0) 25 = x2 → x2.toInt ≠ 512 → fR (F q0) 22 = (γ 9 22) → fI (F q1) 5 = x3 → fI (F q1) 2 = x4 → tr_RModel_value D I γ el F q0 x3 x4 x5 → F (γ 9 22) = .inl (I .int, 512, .inl x6) → x7 = upd x6 x2.toNatClampNeg x5 → (∀ b, b ≠ (γ 9 22) → x8 b = F b) → x8 (γ 9 22) = .inl (I .int, 512, .inl x7) → fI (x8 q0) 25 = x2 → x9.toInt = x2.toInt + 1 → (∀ b, b ≠ q0 → x10 b = x8 b) → x10 q0 = cF (x8 q0) 25 (.int x9) → R (-1 : Int32) x10) →
  (∀ (x1 : Int32) (x2 : Int32), fI (F q1) 0 = x1 → x1.toInt = 22 → fI (F q0) 25 = x2 → x2.toInt = 512 → R (5 : Int32) F) →
  (∀ (x1 : Int32) (x2 : Int32) (x3 : Int32) (x4 : Int32) (x5 : Int32) (x6 : Nat → Int32) (x7 : Nat → Int32) (x8 : Nat → va_E), fI (F q1) 0 = x1 → x1.toInt = 23 → fR (F q0) 21 = (γ 9 21) → fI (F q1) 4 = x2 → fI (F q1) 5 = x3 → fI (F q1) 2 = x4 → tr_RModel_value D I γ el F q0 x3 x4 x5 → F (γ 9 21) = .inl (I .int, 2000, .inl x6) → x7 = upd x6 x2.toNatClampNeg x5 → (∀ b, b ≠ (γ 9 21) → x8 b = F b) → x8 (γ 9 21) = .inl (I .int, 2000, .inl x7) → R (-1 : Int32) x8) →
  (∀ (x1 : Int32) (x2 : Int32) (x3 : Int32) (x4 : Int32) (x5 : Int32) (x6 : Int32) (x7 : Int32) (x8 : Int64) (x9 : Int32) (x10 : Int32) (x11 : Nat → Int32) (x12 : Nat → Int32) (x13 : Nat → va_E), fI (F q1) 0 = x1 → x1.toInt ≠ 0 → x1.toInt ≠ 20 → x1.toInt ≠ 21 → x1.toInt ≠ 22 → x1.toInt ≠ 23 → fI (F q1) 5 = x2 → fI (F q1) 2 = x3 → tr_RModel_value D I γ el F q0 x2 x3 x4 → fI (F q1) 6 = x5 → fI (F q1) 3 = x6 → tr_RModel_value D I γ el F q0 x5 x6 x7 → tr_RModel_result x1 x4 x7 x8 → (¬ x8 = (4294967296 : Int64)) → fR (F q0) 20 = (γ 9 20) → fI (F q1) 1 = x9 → x10 = x8.toInt32 → F (γ 9 20) = .inl (I .int, 2000, .inl x11) → x12 = upd x11 x9.toNatClampNeg x10 → (∀ b, b ≠ (γ 9 20) → x13 b = F b) → x13 (γ 9 20) = .inl (I .int, 2000, .inl x12) → R (-1 : Int32) x13) →
  (∀ (x1 : Int32) (x2 : Int32) (x3 : Int32) (x4 : Int32) (x5 : Int32) (x6 : Int32) (x7 : Int32) (x8 : Int64), fI (F q1) 0 = x1 → x1.toInt ≠ 0 → x1.toInt ≠ 20 → x1.toInt ≠ 21 → x1.toInt ≠ 22 → x1.toInt ≠ 23 → fI (F q1) 5 = x2 → fI (F q1) 2 = x3 → tr_RModel_value D I γ el F q0 x2 x3 x4 → fI (F q1) 6 = x5 → fI (F q1) 3 = x6 → tr_RModel_value D I γ el F q0 x5 x6 x7 → tr_RModel_result x1 x4 x7 x8 → x8 = (4294967296 : Int64) → R (1 : Int32) F) →
  R o1 o2
