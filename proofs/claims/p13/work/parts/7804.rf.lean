theorem dr_cX17_next_0 : decode cX17_next 0 = .ok (.iconst 0, 1) := by decide +kernel
theorem dr_cX17_next_1 : decode cX17_next 1 = .ok (.istore_n 2, 1) := by decide +kernel
theorem dr_cX17_next_2 : decode cX17_next 2 = .ok (.iload_n 2, 1) := by decide +kernel
theorem dr_cX17_next_3 : decode cX17_next 3 = .ok (.sipush 2000, 3) := by decide +kernel
theorem dr_cX17_next_6 : decode cX17_next 6 = .ok (.if_icmp .ge 30, 3) := by decide +kernel
theorem dr_cX17_next_36 : decode cX17_next 36 = .ok (.iconst (-1), 1) := by decide +kernel
theorem dr_cX17_next_37 : decode cX17_next 37 = .ok (.istore_n 2, 1) := by decide +kernel
theorem dr_cX17_next_38 : decode cX17_next 38 = .ok (.iconst 0, 1) := by decide +kernel
theorem dr_cX17_next_39 : decode cX17_next 39 = .ok (.istore_n 3, 1) := by decide +kernel
theorem dr_cX17_next_40 : decode cX17_next 40 = .ok (.iload_n 3, 1) := by decide +kernel
theorem dr_cX17_next_41 : decode cX17_next 41 = .ok (.sipush 2000, 3) := by decide +kernel
theorem dr_cX17_next_44 : decode cX17_next 44 = .ok (.if_icmp .ge 127, 3) := by decide +kernel
theorem dr_cX17_next_171 : decode cX17_next 171 = .ok (.iload_n 2, 1) := by decide +kernel
theorem dr_cX17_next_172 : decode cX17_next 172 = .ok (.ireturn, 1) := by decide +kernel
theorem dr_cX17_next_47 : decode cX17_next 47 = .ok (.aload_n 0, 1) := by decide +kernel
theorem dr_cX17_next_48 : decode cX17_next 48 = .ok (.getfield 206, 3) := by decide +kernel
theorem wr_7_92 : (Jvm.Cond.fieldLink "SpillForgeModel" (206 : Nat) "SpillForgeModel" "there" "[Z") ∈ gw := gw_7 92 rfl rfl
theorem dr_cX17_next_51 : decode cX17_next 51 = .ok (.iload_n 3, 1) := by decide +kernel
theorem dr_cX17_next_52 : decode cX17_next 52 = .ok (.baload, 1) := by decide +kernel
theorem dr_cX17_next_53 : decode cX17_next 53 = .ok (.ifCond .ne 6, 3) := by decide +kernel
theorem dr_cX17_next_59 : decode cX17_next 59 = .ok (.iload_n 2, 1) := by decide +kernel
theorem dr_cX17_next_60 : decode cX17_next 60 = .ok (.ifCond .ge 8, 3) := by decide +kernel
theorem dr_cX17_next_68 : decode cX17_next 68 = .ok (.iload_n 3, 1) := by decide +kernel
theorem dr_cX17_next_69 : decode cX17_next 69 = .ok (.bipush 100, 2) := by decide +kernel
theorem dr_cX17_next_71 : decode cX17_next 71 = .ok (.if_icmp .lt 7, 3) := by decide +kernel
theorem dr_cX17_next_78 : decode cX17_next 78 = .ok (.iconst 0, 1) := by decide +kernel
theorem dr_cX17_next_79 : decode cX17_next 79 = .ok (.istore 4, 2) := by decide +kernel
theorem dr_cX17_next_81 : decode cX17_next 81 = .ok (.iload_n 2, 1) := by decide +kernel
theorem dr_cX17_next_82 : decode cX17_next 82 = .ok (.bipush 100, 2) := by decide +kernel
theorem dr_cX17_next_84 : decode cX17_next 84 = .ok (.if_icmp .lt 7, 3) := by decide +kernel
theorem dr_cX17_next_91 : decode cX17_next 91 = .ok (.iconst 0, 1) := by decide +kernel
theorem dr_cX17_next_92 : decode cX17_next 92 = .ok (.istore 5, 2) := by decide +kernel
theorem dr_cX17_next_94 : decode cX17_next 94 = .ok (.iload 4, 2) := by decide +kernel
theorem dr_cX17_next_96 : decode cX17_next 96 = .ok (.ifCond .eq 11, 3) := by decide +kernel
theorem dr_cX17_next_107 : decode cX17_next 107 = .ok (.aload_n 0, 1) := by decide +kernel
theorem dr_cX17_next_108 : decode cX17_next 108 = .ok (.getfield 174, 3) := by decide +kernel
theorem wr_7_79 : (Jvm.Cond.fieldLink "SpillForgeModel" (174 : Nat) "SpillForgeModel" "weight" "[I") ∈ gw := gw_7 79 rfl rfl
theorem dr_cX17_next_111 : decode cX17_next 111 = .ok (.iload_n 3, 1) := by decide +kernel
theorem dr_cX17_next_112 : decode cX17_next 112 = .ok (.iaload, 1) := by decide +kernel
theorem dr_cX17_next_113 : decode cX17_next 113 = .ok (.i2l, 1) := by decide +kernel
theorem dr_cX17_next_114 : decode cX17_next 114 = .ok (.aload_n 0, 1) := by decide +kernel
theorem dr_cX17_next_115 : decode cX17_next 115 = .ok (.getfield 209, 3) := by decide +kernel
theorem wr_7_90 : (Jvm.Cond.fieldLink "SpillForgeModel" (209 : Nat) "SpillForgeModel" "left" "[I") ∈ gw := gw_7 90 rfl rfl
theorem dr_cX17_next_118 : decode cX17_next 118 = .ok (.iload_n 2, 1) := by decide +kernel
theorem dr_cX17_next_119 : decode cX17_next 119 = .ok (.iaload, 1) := by decide +kernel
theorem dr_cX17_next_120 : decode cX17_next 120 = .ok (.i2l, 1) := by decide +kernel
theorem dr_cX17_next_121 : decode cX17_next 121 = .ok (.lmul, 1) := by decide +kernel
theorem dr_cX17_next_122 : decode cX17_next 122 = .ok (.aload_n 0, 1) := by decide +kernel
theorem dr_cX17_next_123 : decode cX17_next 123 = .ok (.getfield 174, 3) := by decide +kernel
theorem dr_cX17_next_126 : decode cX17_next 126 = .ok (.iload_n 2, 1) := by decide +kernel
theorem dr_cX17_next_127 : decode cX17_next 127 = .ok (.iaload, 1) := by decide +kernel
theorem dr_cX17_next_128 : decode cX17_next 128 = .ok (.i2l, 1) := by decide +kernel
theorem dr_cX17_next_129 : decode cX17_next 129 = .ok (.aload_n 0, 1) := by decide +kernel
theorem dr_cX17_next_130 : decode cX17_next 130 = .ok (.getfield 209, 3) := by decide +kernel
theorem dr_cX17_next_133 : decode cX17_next 133 = .ok (.iload_n 3, 1) := by decide +kernel
theorem dr_cX17_next_134 : decode cX17_next 134 = .ok (.iaload, 1) := by decide +kernel
theorem dr_cX17_next_135 : decode cX17_next 135 = .ok (.i2l, 1) := by decide +kernel
theorem dr_cX17_next_136 : decode cX17_next 136 = .ok (.lmul, 1) := by decide +kernel
theorem dr_cX17_next_137 : decode cX17_next 137 = .ok (.lcmp, 1) := by decide +kernel
theorem dr_cX17_next_138 : decode cX17_next 138 = .ok (.ifCond .ge 7, 3) := by decide +kernel
theorem dr_cX17_next_145 : decode cX17_next 145 = .ok (.iconst 0, 1) := by decide +kernel
theorem dr_cX17_next_146 : decode cX17_next 146 = .ok (.istore 6, 2) := by decide +kernel
theorem dr_cX17_next_148 : decode cX17_next 148 = .ok (.iload 4, 2) := by decide +kernel
theorem dr_cX17_next_150 : decode cX17_next 150 = .ok (.ifCond .ne 8, 3) := by decide +kernel
theorem dr_cX17_next_153 : decode cX17_next 153 = .ok (.iload 5, 2) := by decide +kernel
theorem dr_cX17_next_155 : decode cX17_next 155 = .ok (.ifCond .ne 8, 3) := by decide +kernel
theorem dr_cX17_next_158 : decode cX17_next 158 = .ok (.iload 6, 2) := by decide +kernel
theorem dr_cX17_next_160 : decode cX17_next 160 = .ok (.ifCond .eq 5, 3) := by decide +kernel
theorem dr_cX17_next_165 : decode cX17_next 165 = .ok (.iinc 3 1, 3) := by decide +kernel
theorem dr_cX17_next_168 : decode cX17_next 168 = .ok (.goto (-128), 3) := by decide +kernel
theorem dr_cX17_next_141 : decode cX17_next 141 = .ok (.iconst 1, 1) := by decide +kernel
theorem dr_cX17_next_142 : decode cX17_next 142 = .ok (.goto 4, 3) := by decide +kernel
theorem dr_cX17_next_163 : decode cX17_next 163 = .ok (.iload_n 3, 1) := by decide +kernel
theorem dr_cX17_next_164 : decode cX17_next 164 = .ok (.istore_n 2, 1) := by decide +kernel
theorem dr_cX17_next_87 : decode cX17_next 87 = .ok (.iconst 1, 1) := by decide +kernel
theorem dr_cX17_next_88 : decode cX17_next 88 = .ok (.goto 4, 3) := by decide +kernel
theorem dr_cX17_next_74 : decode cX17_next 74 = .ok (.iconst 1, 1) := by decide +kernel
theorem dr_cX17_next_75 : decode cX17_next 75 = .ok (.goto 4, 3) := by decide +kernel
theorem dr_cX17_next_99 : decode cX17_next 99 = .ok (.iload 5, 2) := by decide +kernel
theorem dr_cX17_next_101 : decode cX17_next 101 = .ok (.ifCond .ne 6, 3) := by decide +kernel
theorem dr_cX17_next_104 : decode cX17_next 104 = .ok (.goto 61, 3) := by decide +kernel
theorem dr_cX17_next_63 : decode cX17_next 63 = .ok (.iload_n 3, 1) := by decide +kernel
theorem dr_cX17_next_64 : decode cX17_next 64 = .ok (.istore_n 2, 1) := by decide +kernel
theorem dr_cX17_next_65 : decode cX17_next 65 = .ok (.goto 100, 3) := by decide +kernel
theorem dr_cX17_next_56 : decode cX17_next 56 = .ok (.goto 109, 3) := by decide +kernel
theorem dr_cX17_next_9 : decode cX17_next 9 = .ok (.aload_n 0, 1) := by decide +kernel
theorem dr_cX17_next_10 : decode cX17_next 10 = .ok (.getfield 206, 3) := by decide +kernel
theorem dr_cX17_next_13 : decode cX17_next 13 = .ok (.iload_n 2, 1) := by decide +kernel
theorem dr_cX17_next_14 : decode cX17_next 14 = .ok (.baload, 1) := by decide +kernel
theorem dr_cX17_next_15 : decode cX17_next 15 = .ok (.ifCond .eq 15, 3) := by decide +kernel
theorem dr_cX17_next_30 : decode cX17_next 30 = .ok (.iinc 2 1, 3) := by decide +kernel
theorem dr_cX17_next_33 : decode cX17_next 33 = .ok (.goto (-31), 3) := by decide +kernel
theorem dr_cX17_next_18 : decode cX17_next 18 = .ok (.aload_n 0, 1) := by decide +kernel
theorem dr_cX17_next_19 : decode cX17_next 19 = .ok (.getfield 209, 3) := by decide +kernel
theorem dr_cX17_next_22 : decode cX17_next 22 = .ok (.iload_n 2, 1) := by decide +kernel
theorem dr_cX17_next_23 : decode cX17_next 23 = .ok (.iaload, 1) := by decide +kernel
theorem dr_cX17_next_24 : decode cX17_next 24 = .ok (.iload_n 1, 1) := by decide +kernel
theorem dr_cX17_next_25 : decode cX17_next 25 = .ok (.if_icmp .ge 5, 3) := by decide +kernel
theorem dr_cX17_next_28 : decode cX17_next 28 = .ok (.iload_n 2, 1) := by decide +kernel
theorem dr_cX17_next_29 : decode cX17_next 29 = .ok (.ireturn, 1) := by decide +kernel
theorem dr_cX17_findDepth_0 : decode cX17_findDepth 0 = .ok (.iconst 0, 1) := by decide +kernel
theorem dr_cX17_findDepth_1 : decode cX17_findDepth 1 = .ok (.istore_n 2, 1) := by decide +kernel
theorem dr_cX17_findDepth_2 : decode cX17_findDepth 2 = .ok (.iload_n 2, 1) := by decide +kernel
theorem dr_cX17_findDepth_3 : decode cX17_findDepth 3 = .ok (.aload_n 1, 1) := by decide +kernel
theorem dr_cX17_findDepth_4 : decode cX17_findDepth 4 = .ok (.invokevirtual 96, 3) := by decide +kernel
theorem dr_cX17_findDepth_7 : decode cX17_findDepth 7 = .ok (.if_icmp .ge 16, 3) := by decide +kernel
theorem dr_cX17_findDepth_23 : decode cX17_findDepth 23 = .ok (.aload_n 1, 1) := by decide +kernel
theorem dr_cX17_findDepth_24 : decode cX17_findDepth 24 = .ok (.iconst (-1), 1) := by decide +kernel
theorem dr_cX17_findDepth_25 : decode cX17_findDepth 25 = .ok (.invokestatic 156, 3) := by decide +kernel
theorem wr_11_41 : (Jvm.Cond.methodLink "SpillForgeModel" (156 : Nat) ({ cls := "SpillForgeModel", name := "reached", desc := "(LSpillForgeModel$Code;I)J" } : Jvm.MethodName)) ∈ gw := gw_11 41 rfl rfl
theorem wr_11_43 : (Jvm.Cond.code ({ cls := "SpillForgeModel", name := "reached", desc := "(LSpillForgeModel$Code;I)J" } : Jvm.MethodName) prog_14_method_12_code (8 : Nat) (Option.some Jvm.ClassFile.FieldType.long)) ∈ gw := gw_11 43 rfl rfl
theorem wr_11_42 : (Jvm.Cond.static ({ cls := "SpillForgeModel", name := "reached", desc := "(LSpillForgeModel$Code;I)J" } : Jvm.MethodName)) ∈ gw := gw_11 42 rfl rfl
theorem dr_cX17_findDepth_28 : decode cX17_findDepth 28 = .ok (.lstore_n 2, 1) := by decide +kernel
theorem dr_cX17_findDepth_29 : decode cX17_findDepth 29 = .ok (.iconst 0, 1) := by decide +kernel
theorem dr_cX17_findDepth_30 : decode cX17_findDepth 30 = .ok (.istore 4, 2) := by decide +kernel
theorem dr_cX17_findDepth_32 : decode cX17_findDepth 32 = .ok (.iload 4, 2) := by decide +kernel
theorem dr_cX17_findDepth_34 : decode cX17_findDepth 34 = .ok (.aload_n 1, 1) := by decide +kernel
theorem dr_cX17_findDepth_35 : decode cX17_findDepth 35 = .ok (.invokevirtual 96, 3) := by decide +kernel
theorem dr_cX17_findDepth_38 : decode cX17_findDepth 38 = .ok (.if_icmp .ge 301, 3) := by decide +kernel
theorem dr_cX17_findDepth_339 : decode cX17_findDepth 339 = .ok (.iconst 0, 1) := by decide +kernel
theorem dr_cX17_findDepth_340 : decode cX17_findDepth 340 = .ok (.istore 4, 2) := by decide +kernel
theorem dr_cX17_findDepth_342 : decode cX17_findDepth 342 = .ok (.iload 4, 2) := by decide +kernel
theorem dr_cX17_findDepth_344 : decode cX17_findDepth 344 = .ok (.aload_n 1, 1) := by decide +kernel
theorem dr_cX17_findDepth_345 : decode cX17_findDepth 345 = .ok (.invokevirtual 96, 3) := by decide +kernel
theorem dr_cX17_findDepth_348 : decode cX17_findDepth 348 = .ok (.if_icmp .ge 27, 3) := by decide +kernel
theorem dr_cX17_findDepth_375 : decode cX17_findDepth 375 = .ok (.return_, 1) := by decide +kernel
theorem dr_cX17_findDepth_351 : decode cX17_findDepth 351 = .ok (.aload_n 0, 1) := by decide +kernel
theorem dr_cX17_findDepth_352 : decode cX17_findDepth 352 = .ok (.getfield 152, 3) := by decide +kernel
theorem wr_7_78 : (Jvm.Cond.fieldLink "SpillForgeModel" (152 : Nat) "SpillForgeModel" "depth" "[I") ∈ gw := gw_7 78 rfl rfl
theorem dr_cX17_findDepth_355 : decode cX17_findDepth 355 = .ok (.iload 4, 2) := by decide +kernel
theorem dr_cX17_findDepth_357 : decode cX17_findDepth 357 = .ok (.aload_n 0, 1) := by decide +kernel
theorem dr_cX17_findDepth_358 : decode cX17_findDepth 358 = .ok (.getfield 152, 3) := by decide +kernel
theorem dr_cX17_findDepth_361 : decode cX17_findDepth 361 = .ok (.iload 4, 2) := by decide +kernel
theorem dr_cX17_findDepth_363 : decode cX17_findDepth 363 = .ok (.iaload, 1) := by decide +kernel
theorem dr_cX17_findDepth_364 : decode cX17_findDepth 364 = .ok (.iconst 4, 1) := by decide +kernel
theorem dr_cX17_findDepth_365 : decode cX17_findDepth 365 = .ok (.invokestatic 164, 3) := by decide +kernel
theorem wr_11_20 : (Jvm.Cond.methodLink "SpillForgeModel" (164 : Nat) ({ cls := "java/lang/Math", name := "min", desc := "(II)I" } : Jvm.MethodName)) ∈ gw := gw_11 20 rfl rfl
theorem dr_cX17_findDepth_368 : decode cX17_findDepth 368 = .ok (.iastore, 1) := by decide +kernel
theorem dr_cX17_findDepth_369 : decode cX17_findDepth 369 = .ok (.iinc 4 1, 3) := by decide +kernel
theorem dr_cX17_findDepth_372 : decode cX17_findDepth 372 = .ok (.goto (-30), 3) := by decide +kernel
theorem dr_cX17_findDepth_41 : decode cX17_findDepth 41 = .ok (.lload_n 2, 1) := by decide +kernel
theorem dr_cX17_findDepth_42 : decode cX17_findDepth 42 = .ok (.iload 4, 2) := by decide +kernel
theorem dr_cX17_findDepth_44 : decode cX17_findDepth 44 = .ok (.lushr, 1) := by decide +kernel
theorem dr_cX17_findDepth_45 : decode cX17_findDepth 45 = .ok (.lconst 1, 1) := by decide +kernel
theorem dr_cX17_findDepth_46 : decode cX17_findDepth 46 = .ok (.land, 1) := by decide +kernel
theorem dr_cX17_findDepth_47 : decode cX17_findDepth 47 = .ok (.lconst 0, 1) := by decide +kernel
theorem dr_cX17_findDepth_48 : decode cX17_findDepth 48 = .ok (.lcmp, 1) := by decide +kernel
theorem dr_cX17_findDepth_49 : decode cX17_findDepth 49 = .ok (.ifCond .ne 6, 3) := by decide +kernel
theorem dr_cX17_findDepth_55 : decode cX17_findDepth 55 = .ok (.lload_n 2, 1) := by decide +kernel
theorem dr_cX17_findDepth_56 : decode cX17_findDepth 56 = .ok (.aload_n 1, 1) := by decide +kernel
theorem dr_cX17_findDepth_57 : decode cX17_findDepth 57 = .ok (.iload 4, 2) := by decide +kernel
theorem dr_cX17_findDepth_59 : decode cX17_findDepth 59 = .ok (.invokestatic 156, 3) := by decide +kernel
theorem dr_cX17_findDepth_62 : decode cX17_findDepth 62 = .ok (.ldc2_w 31, 3) := by decide +kernel
theorem dr_cX17_findDepth_65 : decode cX17_findDepth 65 = .ok (.lxor, 1) := by decide +kernel
theorem dr_cX17_findDepth_66 : decode cX17_findDepth 66 = .ok (.land, 1) := by decide +kernel
theorem dr_cX17_findDepth_67 : decode cX17_findDepth 67 = .ok (.lstore 5, 2) := by decide +kernel
theorem dr_cX17_findDepth_69 : decode cX17_findDepth 69 = .ok (.lconst 0, 1) := by decide +kernel
theorem dr_cX17_findDepth_70 : decode cX17_findDepth 70 = .ok (.lstore 7, 2) := by decide +kernel
theorem dr_cX17_findDepth_72 : decode cX17_findDepth 72 = .ok (.iconst 0, 1) := by decide +kernel
theorem dr_cX17_findDepth_73 : decode cX17_findDepth 73 = .ok (.istore 9, 2) := by decide +kernel
theorem dr_cX17_findDepth_75 : decode cX17_findDepth 75 = .ok (.iload 9, 2) := by decide +kernel
theorem dr_cX17_findDepth_77 : decode cX17_findDepth 77 = .ok (.aload_n 1, 1) := by decide +kernel
theorem dr_cX17_findDepth_78 : decode cX17_findDepth 78 = .ok (.invokevirtual 96, 3) := by decide +kernel
theorem dr_cX17_findDepth_81 : decode cX17_findDepth 81 = .ok (.if_icmp .ge 44, 3) := by decide +kernel
theorem dr_cX17_findDepth_125 : decode cX17_findDepth 125 = .ok (.lload 7, 2) := by decide +kernel
theorem dr_cX17_findDepth_127 : decode cX17_findDepth 127 = .ok (.lconst 0, 1) := by decide +kernel
theorem dr_cX17_findDepth_128 : decode cX17_findDepth 128 = .ok (.lcmp, 1) := by decide +kernel
theorem dr_cX17_findDepth_129 : decode cX17_findDepth 129 = .ok (.ifCond .ne 6, 3) := by decide +kernel
theorem dr_cX17_findDepth_135 : decode cX17_findDepth 135 = .ok (.lload 7, 2) := by decide +kernel
theorem dr_cX17_findDepth_137 : decode cX17_findDepth 137 = .ok (.lconst 1, 1) := by decide +kernel
theorem dr_cX17_findDepth_138 : decode cX17_findDepth 138 = .ok (.iload 4, 2) := by decide +kernel
theorem dr_cX17_findDepth_140 : decode cX17_findDepth 140 = .ok (.lshl, 1) := by decide +kernel
theorem dr_cX17_findDepth_141 : decode cX17_findDepth 141 = .ok (.lor, 1) := by decide +kernel
theorem dr_cX17_findDepth_142 : decode cX17_findDepth 142 = .ok (.lstore 7, 2) := by decide +kernel
theorem dr_cX17_findDepth_144 : decode cX17_findDepth 144 = .ok (.iconst 1, 1) := by decide +kernel
theorem dr_cX17_findDepth_145 : decode cX17_findDepth 145 = .ok (.istore 9, 2) := by decide +kernel
theorem dr_cX17_findDepth_147 : decode cX17_findDepth 147 = .ok (.iload 9, 2) := by decide +kernel
theorem dr_cX17_findDepth_149 : decode cX17_findDepth 149 = .ok (.ifCond .eq 148, 3) := by decide +kernel
theorem dr_cX17_findDepth_297 : decode cX17_findDepth 297 = .ok (.iconst 0, 1) := by decide +kernel
theorem dr_cX17_findDepth_298 : decode cX17_findDepth 298 = .ok (.istore 10, 2) := by decide +kernel
theorem dr_cX17_findDepth_300 : decode cX17_findDepth 300 = .ok (.iload 10, 2) := by decide +kernel
theorem dr_cX17_findDepth_302 : decode cX17_findDepth 302 = .ok (.aload_n 1, 1) := by decide +kernel
theorem dr_cX17_findDepth_303 : decode cX17_findDepth 303 = .ok (.invokevirtual 96, 3) := by decide +kernel
theorem dr_cX17_findDepth_306 : decode cX17_findDepth 306 = .ok (.if_icmp .ge 27, 3) := by decide +kernel
theorem dr_cX17_findDepth_333 : decode cX17_findDepth 333 = .ok (.iinc 4 1, 3) := by decide +kernel
theorem dr_cX17_findDepth_336 : decode cX17_findDepth 336 = .ok (.goto (-304), 3) := by decide +kernel
theorem dr_cX17_findDepth_309 : decode cX17_findDepth 309 = .ok (.aload_n 0, 1) := by decide +kernel
theorem dr_cX17_findDepth_310 : decode cX17_findDepth 310 = .ok (.getfield 152, 3) := by decide +kernel
theorem dr_cX17_findDepth_313 : decode cX17_findDepth 313 = .ok (.iload 10, 2) := by decide +kernel
theorem dr_cX17_findDepth_315 : decode cX17_findDepth 315 = .ok (.dup2, 1) := by decide +kernel
theorem dr_cX17_findDepth_316 : decode cX17_findDepth 316 = .ok (.iaload, 1) := by decide +kernel
theorem dr_cX17_findDepth_317 : decode cX17_findDepth 317 = .ok (.lload 7, 2) := by decide +kernel
theorem dr_cX17_findDepth_319 : decode cX17_findDepth 319 = .ok (.iload 10, 2) := by decide +kernel
theorem dr_cX17_findDepth_321 : decode cX17_findDepth 321 = .ok (.lushr, 1) := by decide +kernel
theorem dr_cX17_findDepth_322 : decode cX17_findDepth 322 = .ok (.lconst 1, 1) := by decide +kernel
theorem dr_cX17_findDepth_323 : decode cX17_findDepth 323 = .ok (.land, 1) := by decide +kernel
theorem dr_cX17_findDepth_324 : decode cX17_findDepth 324 = .ok (.l2i, 1) := by decide +kernel
theorem dr_cX17_findDepth_325 : decode cX17_findDepth 325 = .ok (.iadd, 1) := by decide +kernel
theorem dr_cX17_findDepth_326 : decode cX17_findDepth 326 = .ok (.iastore, 1) := by decide +kernel
theorem dr_cX17_findDepth_327 : decode cX17_findDepth 327 = .ok (.iinc 10 1, 3) := by decide +kernel
theorem dr_cX17_findDepth_330 : decode cX17_findDepth 330 = .ok (.goto (-30), 3) := by decide +kernel
theorem dr_cX17_findDepth_152 : decode cX17_findDepth 152 = .ok (.iconst 0, 1) := by decide +kernel
theorem dr_cX17_findDepth_153 : decode cX17_findDepth 153 = .ok (.istore 9, 2) := by decide +kernel
theorem dr_cX17_findDepth_155 : decode cX17_findDepth 155 = .ok (.iconst 0, 1) := by decide +kernel
theorem dr_cX17_findDepth_156 : decode cX17_findDepth 156 = .ok (.istore 10, 2) := by decide +kernel
theorem dr_cX17_findDepth_158 : decode cX17_findDepth 158 = .ok (.iload 10, 2) := by decide +kernel
theorem dr_cX17_findDepth_160 : decode cX17_findDepth 160 = .ok (.aload_n 1, 1) := by decide +kernel
theorem dr_cX17_findDepth_161 : decode cX17_findDepth 161 = .ok (.invokevirtual 96, 3) := by decide +kernel
theorem dr_cX17_findDepth_164 : decode cX17_findDepth 164 = .ok (.if_icmp .ge 130, 3) := by decide +kernel
theorem dr_cX17_findDepth_294 : decode cX17_findDepth 294 = .ok (.goto (-147), 3) := by decide +kernel
theorem dr_cX17_findDepth_167 : decode cX17_findDepth 167 = .ok (.lload 7, 2) := by decide +kernel
theorem dr_cX17_findDepth_169 : decode cX17_findDepth 169 = .ok (.iload 10, 2) := by decide +kernel
theorem dr_cX17_findDepth_171 : decode cX17_findDepth 171 = .ok (.lushr, 1) := by decide +kernel
theorem dr_cX17_findDepth_172 : decode cX17_findDepth 172 = .ok (.lconst 1, 1) := by decide +kernel
theorem dr_cX17_findDepth_173 : decode cX17_findDepth 173 = .ok (.land, 1) := by decide +kernel
theorem dr_cX17_findDepth_174 : decode cX17_findDepth 174 = .ok (.lconst 0, 1) := by decide +kernel
theorem dr_cX17_findDepth_175 : decode cX17_findDepth 175 = .ok (.lcmp, 1) := by decide +kernel
theorem dr_cX17_findDepth_176 : decode cX17_findDepth 176 = .ok (.ifCond .ne 112, 3) := by decide +kernel
theorem dr_cX17_findDepth_288 : decode cX17_findDepth 288 = .ok (.iinc 10 1, 3) := by decide +kernel
theorem dr_cX17_findDepth_291 : decode cX17_findDepth 291 = .ok (.goto (-133), 3) := by decide +kernel
theorem dr_cX17_findDepth_179 : decode cX17_findDepth 179 = .ok (.lload_n 2, 1) := by decide +kernel
theorem dr_cX17_findDepth_180 : decode cX17_findDepth 180 = .ok (.iload 10, 2) := by decide +kernel
theorem dr_cX17_findDepth_182 : decode cX17_findDepth 182 = .ok (.lushr, 1) := by decide +kernel
theorem dr_cX17_findDepth_183 : decode cX17_findDepth 183 = .ok (.lconst 1, 1) := by decide +kernel
theorem dr_cX17_findDepth_184 : decode cX17_findDepth 184 = .ok (.land, 1) := by decide +kernel
theorem dr_cX17_findDepth_185 : decode cX17_findDepth 185 = .ok (.lconst 0, 1) := by decide +kernel
theorem dr_cX17_findDepth_186 : decode cX17_findDepth 186 = .ok (.lcmp, 1) := by decide +kernel
theorem dr_cX17_findDepth_187 : decode cX17_findDepth 187 = .ok (.ifCond .ne 6, 3) := by decide +kernel
theorem dr_cX17_findDepth_193 : decode cX17_findDepth 193 = .ok (.iconst 0, 1) := by decide +kernel
theorem dr_cX17_findDepth_194 : decode cX17_findDepth 194 = .ok (.istore 11, 2) := by decide +kernel
theorem dr_cX17_findDepth_196 : decode cX17_findDepth 196 = .ok (.iconst 0, 1) := by decide +kernel
theorem dr_cX17_findDepth_197 : decode cX17_findDepth 197 = .ok (.istore 12, 2) := by decide +kernel
theorem dr_cX17_findDepth_199 : decode cX17_findDepth 199 = .ok (.iload 12, 2) := by decide +kernel
theorem dr_cX17_findDepth_201 : decode cX17_findDepth 201 = .ok (.aload_n 1, 1) := by decide +kernel
theorem dr_cX17_findDepth_202 : decode cX17_findDepth 202 = .ok (.iload 10, 2) := by decide +kernel
theorem dr_cX17_findDepth_204 : decode cX17_findDepth 204 = .ok (.invokevirtual 101, 3) := by decide +kernel
theorem dr_cX17_findDepth_207 : decode cX17_findDepth 207 = .ok (.invokevirtual 82, 3) := by decide +kernel
theorem dr_cX17_findDepth_210 : decode cX17_findDepth 210 = .ok (.if_icmp .ge 58, 3) := by decide +kernel
theorem dr_cX17_findDepth_268 : decode cX17_findDepth 268 = .ok (.iload 11, 2) := by decide +kernel
theorem dr_cX17_findDepth_270 : decode cX17_findDepth 270 = .ok (.ifCond .ne 6, 3) := by decide +kernel
theorem dr_cX17_findDepth_276 : decode cX17_findDepth 276 = .ok (.lload 7, 2) := by decide +kernel
theorem dr_cX17_findDepth_278 : decode cX17_findDepth 278 = .ok (.lconst 1, 1) := by decide +kernel
theorem dr_cX17_findDepth_279 : decode cX17_findDepth 279 = .ok (.iload 10, 2) := by decide +kernel
theorem dr_cX17_findDepth_281 : decode cX17_findDepth 281 = .ok (.lshl, 1) := by decide +kernel
theorem dr_cX17_findDepth_282 : decode cX17_findDepth 282 = .ok (.lor, 1) := by decide +kernel
theorem dr_cX17_findDepth_283 : decode cX17_findDepth 283 = .ok (.lstore 7, 2) := by decide +kernel
theorem dr_cX17_findDepth_285 : decode cX17_findDepth 285 = .ok (.iconst 1, 1) := by decide +kernel
theorem dr_cX17_findDepth_286 : decode cX17_findDepth 286 = .ok (.istore 9, 2) := by decide +kernel
theorem dr_cX17_findDepth_273 : decode cX17_findDepth 273 = .ok (.goto 15, 3) := by decide +kernel
theorem dr_cX17_findDepth_213 : decode cX17_findDepth 213 = .ok (.iload 11, 2) := by decide +kernel
theorem dr_cX17_findDepth_215 : decode cX17_findDepth 215 = .ok (.ifCond .ne 40, 3) := by decide +kernel
theorem dr_cX17_findDepth_255 : decode cX17_findDepth 255 = .ok (.iconst 1, 1) := by decide +kernel
theorem dr_cX17_findDepth_256 : decode cX17_findDepth 256 = .ok (.goto 4, 3) := by decide +kernel
theorem dr_cX17_findDepth_260 : decode cX17_findDepth 260 = .ok (.istore 11, 2) := by decide +kernel
theorem dr_cX17_findDepth_262 : decode cX17_findDepth 262 = .ok (.iinc 12 1, 3) := by decide +kernel
theorem dr_cX17_findDepth_265 : decode cX17_findDepth 265 = .ok (.goto (-66), 3) := by decide +kernel
theorem dr_cX17_findDepth_218 : decode cX17_findDepth 218 = .ok (.aload_n 1, 1) := by decide +kernel
theorem dr_cX17_findDepth_219 : decode cX17_findDepth 219 = .ok (.iload 10, 2) := by decide +kernel
theorem dr_cX17_findDepth_221 : decode cX17_findDepth 221 = .ok (.invokevirtual 101, 3) := by decide +kernel
theorem dr_cX17_findDepth_224 : decode cX17_findDepth 224 = .ok (.iload 12, 2) := by decide +kernel
theorem dr_cX17_findDepth_226 : decode cX17_findDepth 226 = .ok (.invokevirtual 92, 3) := by decide +kernel
theorem dr_cX17_findDepth_229 : decode cX17_findDepth 229 = .ok (.iload 4, 2) := by decide +kernel
theorem dr_cX17_findDepth_231 : decode cX17_findDepth 231 = .ok (.if_icmp .eq 28, 3) := by decide +kernel
theorem dr_cX17_findDepth_259 : decode cX17_findDepth 259 = .ok (.iconst 0, 1) := by decide +kernel
theorem dr_cX17_findDepth_234 : decode cX17_findDepth 234 = .ok (.lload 7, 2) := by decide +kernel
theorem dr_cX17_findDepth_236 : decode cX17_findDepth 236 = .ok (.aload_n 1, 1) := by decide +kernel
theorem dr_cX17_findDepth_237 : decode cX17_findDepth 237 = .ok (.iload 10, 2) := by decide +kernel
theorem dr_cX17_findDepth_239 : decode cX17_findDepth 239 = .ok (.invokevirtual 101, 3) := by decide +kernel
theorem dr_cX17_findDepth_242 : decode cX17_findDepth 242 = .ok (.iload 12, 2) := by decide +kernel
theorem dr_cX17_findDepth_244 : decode cX17_findDepth 244 = .ok (.invokevirtual 92, 3) := by decide +kernel
theorem dr_cX17_findDepth_247 : decode cX17_findDepth 247 = .ok (.lushr, 1) := by decide +kernel
theorem dr_cX17_findDepth_248 : decode cX17_findDepth 248 = .ok (.lconst 1, 1) := by decide +kernel
theorem dr_cX17_findDepth_249 : decode cX17_findDepth 249 = .ok (.land, 1) := by decide +kernel
theorem dr_cX17_findDepth_250 : decode cX17_findDepth 250 = .ok (.lconst 0, 1) := by decide +kernel
theorem dr_cX17_findDepth_251 : decode cX17_findDepth 251 = .ok (.lcmp, 1) := by decide +kernel
theorem dr_cX17_findDepth_252 : decode cX17_findDepth 252 = .ok (.ifCond .eq 7, 3) := by decide +kernel
theorem dr_cX17_findDepth_190 : decode cX17_findDepth 190 = .ok (.goto 98, 3) := by decide +kernel
theorem dr_cX17_findDepth_132 : decode cX17_findDepth 132 = .ok (.goto 201, 3) := by decide +kernel
theorem dr_cX17_findDepth_84 : decode cX17_findDepth 84 = .ok (.lload 5, 2) := by decide +kernel
theorem dr_cX17_findDepth_86 : decode cX17_findDepth 86 = .ok (.iload 9, 2) := by decide +kernel
theorem dr_cX17_findDepth_88 : decode cX17_findDepth 88 = .ok (.lushr, 1) := by decide +kernel
theorem dr_cX17_findDepth_89 : decode cX17_findDepth 89 = .ok (.lconst 1, 1) := by decide +kernel
theorem dr_cX17_findDepth_90 : decode cX17_findDepth 90 = .ok (.land, 1) := by decide +kernel
theorem dr_cX17_findDepth_91 : decode cX17_findDepth 91 = .ok (.lconst 0, 1) := by decide +kernel
theorem dr_cX17_findDepth_92 : decode cX17_findDepth 92 = .ok (.lcmp, 1) := by decide +kernel
theorem dr_cX17_findDepth_93 : decode cX17_findDepth 93 = .ok (.ifCond .eq 26, 3) := by decide +kernel
theorem dr_cX17_findDepth_119 : decode cX17_findDepth 119 = .ok (.iinc 9 1, 3) := by decide +kernel
theorem dr_cX17_findDepth_122 : decode cX17_findDepth 122 = .ok (.goto (-47), 3) := by decide +kernel
theorem dr_cX17_findDepth_96 : decode cX17_findDepth 96 = .ok (.aload_n 1, 1) := by decide +kernel
theorem dr_cX17_findDepth_97 : decode cX17_findDepth 97 = .ok (.iload 9, 2) := by decide +kernel
theorem dr_cX17_findDepth_99 : decode cX17_findDepth 99 = .ok (.invokevirtual 101, 3) := by decide +kernel
theorem dr_cX17_findDepth_102 : decode cX17_findDepth 102 = .ok (.iload 4, 2) := by decide +kernel
theorem dr_cX17_findDepth_104 : decode cX17_findDepth 104 = .ok (.invokestatic 160, 3) := by decide +kernel
theorem wr_11_44 : (Jvm.Cond.methodLink "SpillForgeModel" (160 : Nat) ({ cls := "SpillForgeModel", name := "leads", desc := "(LSpillForgeModel$Block;I)Z" } : Jvm.MethodName)) ∈ gw := gw_11 44 rfl rfl
theorem wr_11_46 : (Jvm.Cond.code ({ cls := "SpillForgeModel", name := "leads", desc := "(LSpillForgeModel$Block;I)Z" } : Jvm.MethodName) prog_14_method_13_code (3 : Nat) (Option.some Jvm.ClassFile.FieldType.boolean)) ∈ gw := gw_11 46 rfl rfl
theorem wr_11_45 : (Jvm.Cond.static ({ cls := "SpillForgeModel", name := "leads", desc := "(LSpillForgeModel$Block;I)Z" } : Jvm.MethodName)) ∈ gw := gw_11 45 rfl rfl
theorem dr_cX17_findDepth_107 : decode cX17_findDepth 107 = .ok (.ifCond .eq 12, 3) := by decide +kernel
theorem dr_cX17_findDepth_110 : decode cX17_findDepth 110 = .ok (.lload 7, 2) := by decide +kernel
theorem dr_cX17_findDepth_112 : decode cX17_findDepth 112 = .ok (.lconst 1, 1) := by decide +kernel
theorem dr_cX17_findDepth_113 : decode cX17_findDepth 113 = .ok (.iload 9, 2) := by decide +kernel
theorem dr_cX17_findDepth_115 : decode cX17_findDepth 115 = .ok (.lshl, 1) := by decide +kernel
theorem dr_cX17_findDepth_116 : decode cX17_findDepth 116 = .ok (.lor, 1) := by decide +kernel
theorem dr_cX17_findDepth_117 : decode cX17_findDepth 117 = .ok (.lstore 7, 2) := by decide +kernel
theorem dr_cX17_findDepth_52 : decode cX17_findDepth 52 = .ok (.goto 281, 3) := by decide +kernel
theorem dr_cX17_findDepth_10 : decode cX17_findDepth 10 = .ok (.aload_n 0, 1) := by decide +kernel
theorem dr_cX17_findDepth_11 : decode cX17_findDepth 11 = .ok (.getfield 152, 3) := by decide +kernel
theorem dr_cX17_findDepth_14 : decode cX17_findDepth 14 = .ok (.iload_n 2, 1) := by decide +kernel
theorem dr_cX17_findDepth_15 : decode cX17_findDepth 15 = .ok (.iconst 0, 1) := by decide +kernel
theorem dr_cX17_findDepth_16 : decode cX17_findDepth 16 = .ok (.iastore, 1) := by decide +kernel
theorem dr_cX17_findDepth_17 : decode cX17_findDepth 17 = .ok (.iinc 2 1, 3) := by decide +kernel
theorem dr_cX17_findDepth_20 : decode cX17_findDepth 20 = .ok (.goto (-18), 3) := by decide +kernel
/- tl_RModel_findDepth_342: F, l4; out: F -/
def tl_RModel_findDepth_342 (D : va_G) (I : FieldType → ClassId) (γ el : Nat → Nat → Nat) (P : List Nat) (F : Nat → va_E) (q1 : Nat) (q0 : Nat) (s1 : Nat → va_E) (s2 : Int32) (k : Nat) (e1 : Nat → va_E) : Prop := ∀ R : (Nat → va_E) → (Int32) → Nat → (Nat → va_E) → Prop,
  (∀ (F_1 : Nat → va_E) (l4_1 : Int32) (x1 : Int32), gB l4_1 0 1000000 → RS D I P F_1 γ el → rStr γ [] F F_1 → fI (F_1 q1) 3 = x1 → x1.toInt ≤ l4_1.toInt → R F_1 l4_1 375 F_1) →
  (∀ (F_1 : Nat → va_E) (l4_1 : Int32) (x1 : Int32) (x2 : Nat → Int32) (x3 : Int32) (x4 : Int32) (x5 : Nat → Int32) (x6 : Nat → va_E) (x7 : Int32) (k : Nat) (e1 : Nat → va_E), gB l4_1 0 1000000 → RS D I P F_1 γ el → rStr γ [] F F_1 → fI (F_1 q1) 3 = x1 → l4_1.toInt < x1.toInt → fR (F_1 q0) 4 = (γ 9 4) → F_1 (γ 9 4) = .inl (I .int, 40, .inl x2) → x3 = x2 l4_1.toNatClampNeg → (x3.toInt ≥ x4.toInt ∧ 4 ≥ x4.toInt ∧ (x4.toInt = x3.toInt ∨ x4.toInt = 4)) → x5 = upd x2 l4_1.toNatClampNeg x4 → (∀ b, b ≠ (γ 9 4) → x6 b = F_1 b) → x6 (γ 9 4) = .inl (I .int, 40, .inl x5) → x7.toInt = l4_1.toInt + 1 → R x6 x7 k e1 → R F_1 l4_1 k e1) →
  R s1 s2 k e1
/- tl_RModel_findDepth_300: F, l10; out: F -/
def tl_RModel_findDepth_300 (D : va_G) (I : FieldType → ClassId) (γ el : Nat → Nat → Nat) (P : List Nat) (F : Nat → va_E) (q1 : Nat) (q0 : Nat) (l7_2 : Int64) (s1 : Nat → va_E) (s2 : Int32) (k : Nat) (e1 : Nat → va_E) : Prop := ∀ R : (Nat → va_E) → (Int32) → Nat → (Nat → va_E) → Prop,
  (∀ (F_2 : Nat → va_E) (l10_2 : Int32) (x1 : Int32), gB l10_2 0 1000000 → RS D I P F_2 γ el → rStr γ [] F F_2 → fI (F_2 q1) 3 = x1 → x1.toInt ≤ l10_2.toInt → R F_2 l10_2 333 F_2) →
  (∀ (F_2 : Nat → va_E) (l10_2 : Int32) (x1 : Int32) (x2 : Nat → Int32) (x3 : Int32) (x4 : Int64) (x5 : Int64) (x6 : Int32) (x7 : Int32) (x8 : Nat → Int32) (x9 : Nat → va_E) (x10 : Int32) (k : Nat) (e1 : Nat → va_E), gB l10_2 0 1000000 → RS D I P F_2 γ el → rStr γ [] F F_2 → fI (F_2 q1) 3 = x1 → l10_2.toInt < x1.toInt → fR (F_2 q0) 4 = (γ 9 4) → F_2 (γ 9 4) = .inl (I .int, 40, .inl x2) → x3 = x2 l10_2.toNatClampNeg → x4 = (l7_2.toUInt64 >>> (l10_2.toInt64.toUInt64 &&& Int64.toUInt64 63)).toInt64 → x5 = x4 &&& (1 : Int64) → x6 = x5.toInt32 → x7 = x3 + x6 → x8 = upd x2 l10_2.toNatClampNeg x7 → (∀ b, b ≠ (γ 9 4) → x9 b = F_2 b) → x9 (γ 9 4) = .inl (I .int, 40, .inl x8) → x10.toInt = l10_2.toInt + 1 → R x9 x10 k e1 → R F_2 l10_2 k e1) →
  R s1 s2 k e1
/- tl_RModel_findDepth_199: l12, l11; out: l11 -/
def tl_RModel_findDepth_199 (D : va_G) (I : FieldType → ClassId) (γ el : Nat → Nat → Nat) (F_1 : Nat → va_E) (q1 : Nat) (l10_3 : Int32) (l4_1 : Int32) (l7_3 : Int64) (s1 : Int32) (s2 : Int32) (k : Nat) (e1 : Int32) : Prop := ∀ R : (Int32) → (Int32) → Nat → (Int32) → Prop,
  (∀ (l12_4 : Int32) (l11_4 : Int32) (x1 : Nat) (x2 : Nat) (x3 : Int32) (x4 : Int32) (x5 : Int32) (x6 : Nat) (x7 : Int32) (x8 : Int32), gB l12_4 0 2 → gB l11_4 0 1 → fR (F_1 q1) 0 = x1 → x2 = el x1 l10_3.toInt.toNat → fI (F_1 x1) 2 = x3 → tr_RCode_get l10_3 x3 → fI (F_1 x2) 2 = x4 → fI (F_1 x2) 3 = x5 → fR (F_1 x2) 1 = x6 → fI (F_1 x6) 0 = x7 → gB x8 0 2 → tr_RBlock_ways x4 x5 x7 x8 → x8.toInt ≤ l12_4.toInt → R l12_4 l11_4 268 l11_4) →
  (∀ (l12_4 : Int32) (l11_4 : Int32) (x1 : Nat) (x2 : Nat) (x3 : Int32) (x4 : Int32) (x5 : Int32) (x6 : Nat) (x7 : Int32) (x8 : Int32) (x9 : Int32) (k : Nat) (e1 : Int32), gB l12_4 0 2 → gB l11_4 0 1 → fR (F_1 q1) 0 = x1 → x2 = el x1 l10_3.toInt.toNat → fI (F_1 x1) 2 = x3 → tr_RCode_get l10_3 x3 → fI (F_1 x2) 2 = x4 → fI (F_1 x2) 3 = x5 → fR (F_1 x2) 1 = x6 → fI (F_1 x6) 0 = x7 → gB x8 0 2 → tr_RBlock_ways x4 x5 x7 x8 → l12_4.toInt < x8.toInt → l11_4.toInt ≠ 0 → x9.toInt = l12_4.toInt + 1 → R x9 (1 : Int32) k e1 → R l12_4 l11_4 k e1) →
  (∀ (l12_4 : Int32) (l11_4 : Int32) (x1 : Nat) (x2 : Nat) (x3 : Int32) (x4 : Int32) (x5 : Int32) (x6 : Nat) (x7 : Int32) (x8 : Int32) (x9 : Int32) (x10 : Int32) (k : Nat) (e1 : Int32), gB l12_4 0 2 → gB l11_4 0 1 → fR (F_1 q1) 0 = x1 → x2 = el x1 l10_3.toInt.toNat → fI (F_1 x1) 2 = x3 → tr_RCode_get l10_3 x3 → fI (F_1 x2) 2 = x4 → fI (F_1 x2) 3 = x5 → fR (F_1 x2) 1 = x6 → fI (F_1 x6) 0 = x7 → gB x8 0 2 → tr_RBlock_ways x4 x5 x7 x8 → l12_4.toInt < x8.toInt → l11_4.toInt = 0 → tr_RCode_get l10_3 x3 → gB x9 0 39 → tr_RBlock_way2 l12_4 x4 x5 x9 → x9.toInt = l4_1.toInt → x10.toInt = l12_4.toInt + 1 → R x10 (0 : Int32) k e1 → R l12_4 l11_4 k e1) →
  (∀ (l12_4 : Int32) (l11_4 : Int32) (x1 : Nat) (x2 : Nat) (x3 : Int32) (x4 : Int32) (x5 : Int32) (x6 : Nat) (x7 : Int32) (x8 : Int32) (x9 : Int32) (x10 : Int32) (x11 : Int64) (x12 : Int64) (x13 : Int32) (k : Nat) (e1 : Int32), gB l12_4 0 2 → gB l11_4 0 1 → fR (F_1 q1) 0 = x1 → x2 = el x1 l10_3.toInt.toNat → fI (F_1 x1) 2 = x3 → tr_RCode_get l10_3 x3 → fI (F_1 x2) 2 = x4 → fI (F_1 x2) 3 = x5 → fR (F_1 x2) 1 = x6 → fI (F_1 x6) 0 = x7 → gB x8 0 2 → tr_RBlock_ways x4 x5 x7 x8 → l12_4.toInt < x8.toInt → l11_4.toInt = 0 → tr_RCode_get l10_3 x3 → gB x9 0 39 → tr_RBlock_way2 l12_4 x4 x5 x9 → x9.toInt ≠ l4_1.toInt → tr_RCode_get l10_3 x3 → gB x10 0 39 → tr_RBlock_way2 l12_4 x4 x5 x10 → x11 = (l7_3.toUInt64 >>> (x10.toInt64.toUInt64 &&& Int64.toUInt64 63)).toInt64 → x12 = x11 &&& (1 : Int64) → x12 = (0 : Int64) → x13.toInt = l12_4.toInt + 1 → R x13 (0 : Int32) k e1 → R l12_4 l11_4 k e1) →
  (∀ (l12_4 : Int32) (l11_4 : Int32) (x1 : Nat) (x2 : Nat) (x3 : Int32) (x4 : Int32) (x5 : Int32) (x6 : Nat) (x7 : Int32) (x8 : Int32) (x9 : Int32) (x10 : Int32) (x11 : Int64) (x12 : Int64) (x13 : Int32) (k : Nat) (e1 : Int32), gB l12_4 0 2 → gB l11_4 0 1 → fR (F_1 q1) 0 = x1 → x2 = el x1 l10_3.toInt.toNat → fI (F_1 x1) 2 = x3 → tr_RCode_get l10_3 x3 → fI (F_1 x2) 2 = x4 → fI (F_1 x2) 3 = x5 → fR (F_1 x2) 1 = x6 → fI (F_1 x6) 0 = x7 → gB x8 0 2 → tr_RBlock_ways x4 x5 x7 x8 → l12_4.toInt < x8.toInt → l11_4.toInt = 0 → tr_RCode_get l10_3 x3 → gB x9 0 39 → tr_RBlock_way2 l12_4 x4 x5 x9 → x9.toInt ≠ l4_1.toInt → tr_RCode_get l10_3 x3 → gB x10 0 39 → tr_RBlock_way2 l12_4 x4 x5 x10 → x11 = (l7_3.toUInt64 >>> (x10.toInt64.toUInt64 &&& Int64.toUInt64 63)).toInt64 → x12 = x11 &&& (1 : Int64) → (¬ x12 = (0 : Int64)) → x13.toInt = l12_4.toInt + 1 → R x13 (1 : Int32) k e1 → R l12_4 l11_4 k e1) →
  R s1 s2 k e1
/- tl_RModel_findDepth_158: l10, l9, l7; out: l9, l7 -/
def tl_RModel_findDepth_158 (D : va_G) (I : FieldType → ClassId) (γ el : Nat → Nat → Nat) (l7_2 : Int64) (F_1 : Nat → va_E) (q1 : Nat) (c1 : Int64) (l4_1 : Int32) (s1 : Int32) (s2 : Int32) (s3 : Int64) (k : Nat) (e1 : Int32) (e2 : Int64) : Prop := ∀ R : (Int32) → (Int32) → (Int64) → Nat → (Int32) → (Int64) → Prop,
  (∀ (l10_3 : Int32) (l9_3 : Int32) (l7_3 : Int64) (x1 : Int32), gB l10_3 0 1000000 → gB l9_3 0 1 → rpop l7_3 ≤ 64 → rpop l7_2 + ((l9_3.toInt : Int)).toNat ≤ rpop l7_3 → fI (F_1 q1) 3 = x1 → x1.toInt ≤ l10_3.toInt → R l10_3 l9_3 l7_3 294 l9_3 l7_3) →
  (∀ (l10_3 : Int32) (l9_3 : Int32) (l7_3 : Int64) (x1 : Int32) (x2 : Int64) (x3 : Int64) (x4 : Int32) (k : Nat) (e1 : Int32) (e2 : Int64), gB l10_3 0 1000000 → gB l9_3 0 1 → rpop l7_3 ≤ 64 → rpop l7_2 + ((l9_3.toInt : Int)).toNat ≤ rpop l7_3 → fI (F_1 q1) 3 = x1 → l10_3.toInt < x1.toInt → x2 = (l7_3.toUInt64 >>> (l10_3.toInt64.toUInt64 &&& Int64.toUInt64 63)).toInt64 → x3 = x2 &&& (1 : Int64) → (¬ x3 = (0 : Int64)) → x4.toInt = l10_3.toInt + 1 → R x4 l9_3 l7_3 k e1 e2 → R l10_3 l9_3 l7_3 k e1 e2) →
  (∀ (l10_3 : Int32) (l9_3 : Int32) (l7_3 : Int64) (x1 : Int32) (x2 : Int64) (x3 : Int64) (x4 : Int64) (x5 : Int64) (x6 : Int32) (x7 : Int64) (x8 : Int64) (x9 : Int32) (k : Nat) (e1 : Int32) (e2 : Int64), gB l10_3 0 1000000 → gB l9_3 0 1 → rpop l7_3 ≤ 64 → rpop l7_2 + ((l9_3.toInt : Int)).toNat ≤ rpop l7_3 → fI (F_1 q1) 3 = x1 → l10_3.toInt < x1.toInt → x2 = (l7_3.toUInt64 >>> (l10_3.toInt64.toUInt64 &&& Int64.toUInt64 63)).toInt64 → x3 = x2 &&& (1 : Int64) → x3 = (0 : Int64) → x4 = (c1.toUInt64 >>> (l10_3.toInt64.toUInt64 &&& Int64.toUInt64 63)).toInt64 → x5 = x4 &&& (1 : Int64) → (¬ x5 = (0 : Int64)) → tl_RModel_findDepth_199 D I γ el F_1 q1 l10_3 l4_1 l7_3 (0 : Int32) (0 : Int32) 268 x6 → x6.toInt ≠ 0 → x7 = (1 : Int64) <<< (l10_3.toInt64 &&& 63) → x8 = l7_3 ||| x7 → x9.toInt = l10_3.toInt + 1 → R x9 (1 : Int32) x8 k e1 e2 → R l10_3 l9_3 l7_3 k e1 e2) →
  (∀ (l10_3 : Int32) (l9_3 : Int32) (l7_3 : Int64) (x1 : Int32) (x2 : Int64) (x3 : Int64) (x4 : Int64) (x5 : Int64) (x6 : Int32) (x7 : Int32) (k : Nat) (e1 : Int32) (e2 : Int64), gB l10_3 0 1000000 → gB l9_3 0 1 → rpop l7_3 ≤ 64 → rpop l7_2 + ((l9_3.toInt : Int)).toNat ≤ rpop l7_3 → fI (F_1 q1) 3 = x1 → l10_3.toInt < x1.toInt → x2 = (l7_3.toUInt64 >>> (l10_3.toInt64.toUInt64 &&& Int64.toUInt64 63)).toInt64 → x3 = x2 &&& (1 : Int64) → x3 = (0 : Int64) → x4 = (c1.toUInt64 >>> (l10_3.toInt64.toUInt64 &&& Int64.toUInt64 63)).toInt64 → x5 = x4 &&& (1 : Int64) → (¬ x5 = (0 : Int64)) → tl_RModel_findDepth_199 D I γ el F_1 q1 l10_3 l4_1 l7_3 (0 : Int32) (0 : Int32) 268 x6 → x6.toInt = 0 → x7.toInt = l10_3.toInt + 1 → R x7 l9_3 l7_3 k e1 e2 → R l10_3 l9_3 l7_3 k e1 e2) →
  (∀ (l10_3 : Int32) (l9_3 : Int32) (l7_3 : Int64) (x1 : Int32) (x2 : Int64) (x3 : Int64) (x4 : Int64) (x5 : Int64) (x6 : Int32) (k : Nat) (e1 : Int32) (e2 : Int64), gB l10_3 0 1000000 → gB l9_3 0 1 → rpop l7_3 ≤ 64 → rpop l7_2 + ((l9_3.toInt : Int)).toNat ≤ rpop l7_3 → fI (F_1 q1) 3 = x1 → l10_3.toInt < x1.toInt → x2 = (l7_3.toUInt64 >>> (l10_3.toInt64.toUInt64 &&& Int64.toUInt64 63)).toInt64 → x3 = x2 &&& (1 : Int64) → x3 = (0 : Int64) → x4 = (c1.toUInt64 >>> (l10_3.toInt64.toUInt64 &&& Int64.toUInt64 63)).toInt64 → x5 = x4 &&& (1 : Int64) → x5 = (0 : Int64) → x6.toInt = l10_3.toInt + 1 → R x6 l9_3 l7_3 k e1 e2 → R l10_3 l9_3 l7_3 k e1 e2) →
  R s1 s2 s3 k e1 e2
/- tl_RModel_findDepth_147: l9, l7; out: l7 -/
def tl_RModel_findDepth_147 (D : va_G) (I : FieldType → ClassId) (γ el : Nat → Nat → Nat) (F_1 : Nat → va_E) (q1 : Nat) (c1 : Int64) (l4_1 : Int32) (s1 : Int32) (s2 : Int64) (k : Nat) (e1 : Int64) : Prop := ∀ R : (Int32) → (Int64) → Nat → (Int64) → Prop,
  (∀ (l9_2 : Int32) (l7_2 : Int64), gB l9_2 0 1 → rpop l7_2 ≤ 64 → l9_2.toInt = 0 → R l9_2 l7_2 297 l7_2) →
  (∀ (l9_2 : Int32) (l7_2 : Int64) (x1 : Int32) (x2 : Int64) (k : Nat) (e1 : Int64), gB l9_2 0 1 → rpop l7_2 ≤ 64 → l9_2.toInt ≠ 0 → tl_RModel_findDepth_158 D I γ el l7_2 F_1 q1 c1 l4_1 (0 : Int32) (0 : Int32) l7_2 294 x1 x2 → R x1 x2 k e1 → R l9_2 l7_2 k e1) →
  R s1 s2 k e1
/- tl_RModel_findDepth_75: l9, l7; out: l7 -/
def tl_RModel_findDepth_75 (D : va_G) (I : FieldType → ClassId) (γ el : Nat → Nat → Nat) (F_1 : Nat → va_E) (q1 : Nat) (c1 : Int64) (l4_1 : Int32) (s1 : Int32) (s2 : Int64) (k : Nat) (e1 : Int64) : Prop := ∀ R : (Int32) → (Int64) → Nat → (Int64) → Prop,
  (∀ (l9_2 : Int32) (l7_2 : Int64) (x1 : Int32), gB l9_2 0 1000000 → fI (F_1 q1) 3 = x1 → x1.toInt ≤ l9_2.toInt → R l9_2 l7_2 125 l7_2) →
  (∀ (l9_2 : Int32) (l7_2 : Int64) (x1 : Int32) (x2 : Int64) (x3 : Int64) (x4 : Int32) (k : Nat) (e1 : Int64), gB l9_2 0 1000000 → fI (F_1 q1) 3 = x1 → l9_2.toInt < x1.toInt → x2 = (c1.toUInt64 >>> (l9_2.toInt64.toUInt64 &&& Int64.toUInt64 63)).toInt64 → x3 = x2 &&& (1 : Int64) → x3 = (0 : Int64) → x4.toInt = l9_2.toInt + 1 → R x4 l7_2 k e1 → R l9_2 l7_2 k e1) →
  (∀ (l9_2 : Int32) (l7_2 : Int64) (x1 : Int32) (x2 : Int64) (x3 : Int64) (x4 : Nat) (x5 : Nat) (x6 : Int32) (x7 : Int32) (x8 : Int32) (k : Nat) (e1 : Int64), gB l9_2 0 1000000 → fI (F_1 q1) 3 = x1 → l9_2.toInt < x1.toInt → x2 = (c1.toUInt64 >>> (l9_2.toInt64.toUInt64 &&& Int64.toUInt64 63)).toInt64 → x3 = x2 &&& (1 : Int64) → (¬ x3 = (0 : Int64)) → fR (F_1 q1) 0 = x4 → x5 = el x4 l9_2.toInt.toNat → fI (F_1 x4) 2 = x6 → tr_RCode_get l9_2 x6 → gB x7 0 1 → tr_RModel_leads D I γ el F_1 x5 l4_1 x7 → x7.toInt = 0 → x8.toInt = l9_2.toInt + 1 → R x8 l7_2 k e1 → R l9_2 l7_2 k e1) →
  (∀ (l9_2 : Int32) (l7_2 : Int64) (x1 : Int32) (x2 : Int64) (x3 : Int64) (x4 : Nat) (x5 : Nat) (x6 : Int32) (x7 : Int32) (x8 : Int64) (x9 : Int64) (x10 : Int32) (k : Nat) (e1 : Int64), gB l9_2 0 1000000 → fI (F_1 q1) 3 = x1 → l9_2.toInt < x1.toInt → x2 = (c1.toUInt64 >>> (l9_2.toInt64.toUInt64 &&& Int64.toUInt64 63)).toInt64 → x3 = x2 &&& (1 : Int64) → (¬ x3 = (0 : Int64)) → fR (F_1 q1) 0 = x4 → x5 = el x4 l9_2.toInt.toNat → fI (F_1 x4) 2 = x6 → tr_RCode_get l9_2 x6 → gB x7 0 1 → tr_RModel_leads D I γ el F_1 x5 l4_1 x7 → x7.toInt ≠ 0 → x8 = (1 : Int64) <<< (l9_2.toInt64 &&& 63) → x9 = l7_2 ||| x8 → x10.toInt = l9_2.toInt + 1 → R x10 x9 k e1 → R l9_2 l7_2 k e1) →
  R s1 s2 k e1
/- tl_RModel_findDepth_32: F, l4; out: F -/
def tl_RModel_findDepth_32 (D : va_G) (I : FieldType → ClassId) (γ el : Nat → Nat → Nat) (P : List Nat) (F : Nat → va_E) (q1 : Nat) (c1 : Int64) (q0 : Nat) (s1 : Nat → va_E) (s2 : Int32) (k : Nat) (e1 : Nat → va_E) : Prop := ∀ R : (Nat → va_E) → (Int32) → Nat → (Nat → va_E) → Prop,
  (∀ (F_1 : Nat → va_E) (l4_1 : Int32) (x1 : Int32), gB l4_1 0 1000000 → RS D I P F_1 γ el → rStr γ [] F F_1 → fI (F_1 q1) 3 = x1 → x1.toInt ≤ l4_1.toInt → R F_1 l4_1 339 F_1) →
  (∀ (F_1 : Nat → va_E) (l4_1 : Int32) (x1 : Int32) (x2 : Int64) (x3 : Int64) (x4 : Int64) (x5 : Int64) (x6 : Int64) (x7 : Int64) (x8 : Int64) (x9 : Int64) (x10 : Int64) (x11 : Nat → va_E) (x12 : Int32) (k : Nat) (e1 : Nat → va_E), gB l4_1 0 1000000 → RS D I P F_1 γ el → rStr γ [] F F_1 → fI (F_1 q1) 3 = x1 → l4_1.toInt < x1.toInt → x2 = (c1.toUInt64 >>> (l4_1.toInt64.toUInt64 &&& Int64.toUInt64 63)).toInt64 → x3 = x2 &&& (1 : Int64) → (¬ x3 = (0 : Int64)) → tr_RModel_reached D I γ el F_1 q1 l4_1 x4 → x5 = x4 ^^^ (-1 : Int64) → x6 = c1 &&& x5 → tl_RModel_findDepth_75 D I γ el F_1 q1 x6 l4_1 (0 : Int32) (0 : Int64) 125 x7 → (¬ x7 = (0 : Int64)) → x8 = (1 : Int64) <<< (l4_1.toInt64 &&& 63) → x9 = x7 ||| x8 → tl_RModel_findDepth_147 D I γ el F_1 q1 c1 l4_1 (1 : Int32) x9 297 x10 → tl_RModel_findDepth_300 D I γ el P F q1 q0 x10 F_1 (0 : Int32) 333 x11 → x12.toInt = l4_1.toInt + 1 → R x11 x12 k e1 → R F_1 l4_1 k e1) →
  (∀ (F_1 : Nat → va_E) (l4_1 : Int32) (x1 : Int32) (x2 : Int64) (x3 : Int64) (x4 : Int64) (x5 : Int64) (x6 : Int64) (x7 : Int64) (x8 : Int32) (k : Nat) (e1 : Nat → va_E), gB l4_1 0 1000000 → RS D I P F_1 γ el → rStr γ [] F F_1 → fI (F_1 q1) 3 = x1 → l4_1.toInt < x1.toInt → x2 = (c1.toUInt64 >>> (l4_1.toInt64.toUInt64 &&& Int64.toUInt64 63)).toInt64 → x3 = x2 &&& (1 : Int64) → (¬ x3 = (0 : Int64)) → tr_RModel_reached D I γ el F_1 q1 l4_1 x4 → x5 = x4 ^^^ (-1 : Int64) → x6 = c1 &&& x5 → tl_RModel_findDepth_75 D I γ el F_1 q1 x6 l4_1 (0 : Int32) (0 : Int64) 125 x7 → x7 = (0 : Int64) → x8.toInt = l4_1.toInt + 1 → R F_1 x8 k e1 → R F_1 l4_1 k e1) →
  (∀ (F_1 : Nat → va_E) (l4_1 : Int32) (x1 : Int32) (x2 : Int64) (x3 : Int64) (x4 : Int32) (k : Nat) (e1 : Nat → va_E), gB l4_1 0 1000000 → RS D I P F_1 γ el → rStr γ [] F F_1 → fI (F_1 q1) 3 = x1 → l4_1.toInt < x1.toInt → x2 = (c1.toUInt64 >>> (l4_1.toInt64.toUInt64 &&& Int64.toUInt64 63)).toInt64 → x3 = x2 &&& (1 : Int64) → x3 = (0 : Int64) → x4.toInt = l4_1.toInt + 1 → R F_1 x4 k e1 → R F_1 l4_1 k e1) →
  R s1 s2 k e1
/- tl_RModel_findDepth_2: F, l2; out: F -/
def tl_RModel_findDepth_2 (D : va_G) (I : FieldType → ClassId) (γ el : Nat → Nat → Nat) (P : List Nat) (F : Nat → va_E) (q1 : Nat) (q0 : Nat) (s1 : Nat → va_E) (s2 : Int32) (k : Nat) (e1 : Nat → va_E) : Prop := ∀ R : (Nat → va_E) → (Int32) → Nat → (Nat → va_E) → Prop,
  (∀ (F_1 : Nat → va_E) (l2_1 : Int32) (x1 : Int32), gB l2_1 0 1000000 → RS D I P F_1 γ el → rStr γ [] F F_1 → fI (F_1 q1) 3 = x1 → x1.toInt ≤ l2_1.toInt → R F_1 l2_1 23 F_1) →
  (∀ (F_1 : Nat → va_E) (l2_1 : Int32) (x1 : Int32) (x2 : Nat → Int32) (x3 : Nat → Int32) (x4 : Nat → va_E) (x5 : Int32) (k : Nat) (e1 : Nat → va_E), gB l2_1 0 1000000 → RS D I P F_1 γ el → rStr γ [] F F_1 → fI (F_1 q1) 3 = x1 → l2_1.toInt < x1.toInt → fR (F_1 q0) 4 = (γ 9 4) → F_1 (γ 9 4) = .inl (I .int, 40, .inl x2) → x3 = upd x2 l2_1.toNatClampNeg 0 → (∀ b, b ≠ (γ 9 4) → x4 b = F_1 b) → x4 (γ 9 4) = .inl (I .int, 40, .inl x3) → x5.toInt = l2_1.toInt + 1 → R x4 x5 k e1 → R F_1 l2_1 k e1) →
  R s1 s2 k e1
/- tr_RModel_findDepth: F -/
def tr_RModel_findDepth (D : va_G) (I : FieldType → ClassId) (γ el : Nat → Nat → Nat) (P : List Nat) (F : Nat → va_E) (q0 : Nat) (q1 : Nat) (o1 : Nat → va_E) : Prop := ∀ R : (Nat → va_E) → Prop,
  (∀ (x1 : Nat → va_E) (x2 : Int64) (x3 : Nat → va_E) (x4 : Nat → va_E), tl_RModel_findDepth_2 D I γ el P F q1 q0 F (0 : Int32) 23 x1 → tr_RModel_reached D I γ el x1 q1 (-1 : Int32) x2 → tl_RModel_findDepth_32 D I γ el P F q1 x2 q0 x1 (0 : Int32) 339 x3 → tl_RModel_findDepth_342 D I γ el P F q1 q0 x3 (0 : Int32) 375 x4 → R x4) →
  R o1
/- tr_RModel_step: result, F -/
def tr_RModel_step (D : va_G) (I : FieldType → ClassId) (γ el : Nat → Nat → Nat) (F : Nat → va_E) (q0 : Nat) (q1 : Nat) (o1 : Int32) (o2 : Nat → va_E) : Prop := ∀ R : (Int32) → (Nat → va_E) → Prop,
  (∀ (x1 : Int32) (x2 : Int32) (x3 : Int32) (x4 : Int32) (x5 : Int32) (x6 : Nat → Int32) (x7 : Nat → Int32) (x8 : Nat → va_E), fI (F q1) 0 = x1 → x1.toInt = 0 → fR (F q0) 20 = (γ 9 20) → fI (F q1) 1 = x2 → fI (F q1) 5 = x3 → fI (F q1) 2 = x4 → tr_RModel_value D I γ el F q0 x3 x4 x5 → F (γ 9 20) = .inl (I .int, 2000, .inl x6) → x7 = upd x6 x2.toNatClampNeg x5 → (∀ b, b ≠ (γ 9 20) → x8 b = F b) → x8 (γ 9 20) = .inl (I .int, 2000, .inl x7) → R (-1 : Int32) x8) →
  (∀ (x1 : Int32) (x2 : Int32) (x3 : Int32) (x4 : Nat) (x5 : Nat → Int32) (x6 : Nat) (x7 : Int32) (x8 : Nat → Int32) (x9 : Nat → Int32) (x10 : Nat → va_E) (x11 : Int32) (x12 : Int32) (x13 : Int32) (x14 : Nat → va_E), fI (F q1) 0 = x1 → x1.toInt = 20 → fR (F q0) 20 = (γ 9 20) → fI (F q1) 1 = x2 → fI (F q0) 27 = x3 → fR (F q0) 28 = x4 → F x4 = .inl (I .int, x6, .inl x5) → x7.toInt = (x6 : Nat) → x7.toInt ≤ x3.toInt → F (γ 9 20) = .inl (I .int, 2000, .inl x8) → x9 = upd x8 x2.toNatClampNeg 0 → (∀ b, b ≠ (γ 9 20) → x10 b = F b) → x10 (γ 9 20) = .inl (I .int, 2000, .inl x9) → fI (x10 q0) 27 = x3 → x11.toInt = x3.toInt + 1 → fR (x10 q0) 28 = x4 → x10 x4 = .inl (I .int, x6, .inl x5) → x12.toInt = (x6 : Nat) → (x11.toInt ≥ x13.toInt ∧ x12.toInt ≥ x13.toInt ∧ (x13.toInt = x11.toInt ∨ x13.toInt = x12.toInt)) → (∀ b, b ≠ q0 → x14 b = x10 b) → x14 q0 = cF (x10 q0) 27 (.int x13) → R (-1 : Int32) x14) →
  (∀ (x1 : Int32) (x2 : Int32) (x3 : Int32) (x4 : Nat) (x5 : Nat → Int32) (x6 : Nat) (x7 : Int32) (x8 : Int32) (x9 : Nat → Int32) (x10 : Nat → Int32) (x11 : Nat → va_E) (x12 : Int32) (x13 : Int32) (x14 : Int32) (x15 : Nat → va_E), fI (F q1) 0 = x1 → x1.toInt = 20 → fR (F q0) 20 = (γ 9 20) → fI (F q1) 1 = x2 → fI (F q0) 27 = x3 → fR (F q0) 28 = x4 → F x4 = .inl (I .int, x6, .inl x5) → x7.toInt = (x6 : Nat) → x3.toInt < x7.toInt → x8 = x5 x3.toNatClampNeg → F (γ 9 20) = .inl (I .int, 2000, .inl x9) → x10 = upd x9 x2.toNatClampNeg x8 → (∀ b, b ≠ (γ 9 20) → x11 b = F b) → x11 (γ 9 20) = .inl (I .int, 2000, .inl x10) → fI (x11 q0) 27 = x3 → x12.toInt = x3.toInt + 1 → fR (x11 q0) 28 = x4 → x11 x4 = .inl (I .int, x6, .inl x5) → x13.toInt = (x6 : Nat) → (x12.toInt ≥ x14.toInt ∧ x13.toInt ≥ x14.toInt ∧ (x14.toInt = x12.toInt ∨ x14.toInt = x13.toInt)) → (∀ b, b ≠ q0 → x15 b = x11 b) → x15 q0 = cF (x11 q0) 27 (.int x14) → R (-1 : Int32) x15) →
  (∀ (x1 : Int32) (x2 : Int32) (x3 : Int32) (x4 : Nat → Int32) (x5 : Int32) (x6 : Nat → Int32) (x7 : Nat → Int32) (x8 : Nat → va_E), fI (F q1) 0 = x1 → x1.toInt = 21 → fR (F q0) 20 = (γ 9 20) → fI (F q1) 1 = x2 → fR (F q0) 21 = (γ 9 21) → fI (F q1) 4 = x3 → F (γ 9 21) = .inl (I .int, 2000, .inl x4) → x5 = x4 x3.toNatClampNeg → F (γ 9 20) = .inl (I .int, 2000, .inl x6) → x7 = upd x6 x2.toNatClampNeg x5 → (∀ b, b ≠ (γ 9 20) → x8 b = F b) → x8 (γ 9 20) = .inl (I .int, 2000, .inl x7) → R (-1 : Int32) x8) →
  (∀ (x1 : Int32) (x2 : Int32) (x3 : Int32) (x4 : Int32) (x5 : Int32) (x6 : Nat → Int32) (x7 : Nat → Int32) (x8 : Nat → va_E) (x9 : Int32) (x10 : Nat → va_E), fI (F q1) 0 = x1 → x1.toInt = 22 → fI (F q0) 25 = x2 → x2.toInt ≠ 512 → fR (F q0) 22 = (γ 9 22) → fI (F q1) 5 = x3 → fI (F q1) 2 = x4 → tr_RModel_value D I γ el F q0 x3 x4 x5 → F (γ 9 22) = .inl (I .int, 512, .inl x6) → x7 = upd x6 x2.toNatClampNeg x5 → (∀ b, b ≠ (γ 9 22) → x8 b = F b) → x8 (γ 9 22) = .inl (I .int, 512, .inl x7) → fI (x8 q0) 25 = x2 → x9.toInt = x2.toInt + 1 → (∀ b, b ≠ q0 → x10 b = x8 b) → x10 q0 = cF (x8 q0) 25 (.int x9) → R (-1 : Int32) x10) →
  (∀ (x1 : Int32) (x2 : Int32), fI (F q1) 0 = x1 → x1.toInt = 22 → fI (F q0) 25 = x2 → x2.toInt = 512 → R (5 : Int32) F) →
  (∀ (x1 : Int32) (x2 : Int32) (x3 : Int32) (x4 : Int32) (x5 : Int32) (x6 : Nat → Int32) (x7 : Nat → Int32) (x8 : Nat → va_E), fI (F q1) 0 = x1 → x1.toInt = 23 → fR (F q0) 21 = (γ 9 21) → fI (F q1) 4 = x2 → fI (F q1) 5 = x3 → fI (F q1) 2 = x4 → tr_RModel_value D I γ el F q0 x3 x4 x5 → F (γ 9 21) = .inl (I .int, 2000, .inl x6) → x7 = upd x6 x2.toNatClampNeg x5 → (∀ b, b ≠ (γ 9 21) → x8 b = F b) → x8 (γ 9 21) = .inl (I .int, 2000, .inl x7) → R (-1 : Int32) x8) →
  (∀ (x1 : Int32) (x2 : Int32) (x3 : Int32) (x4 : Int32) (x5 : Int32) (x6 : Int32) (x7 : Int32) (x8 : Int64) (x9 : Int32) (x10 : Int32) (x11 : Nat → Int32) (x12 : Nat → Int32) (x13 : Nat → va_E), fI (F q1) 0 = x1 → x1.toInt ≠ 0 → x1.toInt ≠ 20 → x1.toInt ≠ 21 → x1.toInt ≠ 22 → x1.toInt ≠ 23 → fI (F q1) 5 = x2 → fI (F q1) 2 = x3 → tr_RModel_value D I γ el F q0 x2 x3 x4 → fI (F q1) 6 = x5 → fI (F q1) 3 = x6 → tr_RModel_value D I γ el F q0 x5 x6 x7 → tr_RModel_result x1 x4 x7 x8 → (¬ x8 = (4294967296 : Int64)) → fR (F q0) 20 = (γ 9 20) → fI (F q1) 1 = x9 → x10 = x8.toInt32 → F (γ 9 20) = .inl (I .int, 2000, .inl x11) → x12 = upd x11 x9.toNatClampNeg x10 → (∀ b, b ≠ (γ 9 20) → x13 b = F b) → x13 (γ 9 20) = .inl (I .int, 2000, .inl x12) → R (-1 : Int32) x13) →
  (∀ (x1 : Int32) (x2 : Int32) (x3 : Int32) (x4 : Int32) (x5 : Int32) (x6 : Int32) (x7 : Int32) (x8 : Int64), fI (F q1) 0 = x1 → x1.toInt ≠ 0 → x1.toInt ≠ 20 → x1.toInt ≠ 21 → x1.toInt ≠ 22 → x1.toInt ≠ 23 → fI (F q1) 5 = x2 → fI (F q1) 2 = x3 → tr_RModel_value D I γ el F q0 x2 x3 x4 → fI (F q1) 6 = x5 → fI (F q1) 3 = x6 → tr_RModel_value D I γ el F q0 x5 x6 x7 → tr_RModel_result x1 x4 x7 x8 → x8 = (4294967296 : Int64) → R (1 : Int32) F) →
  R o1 o2
