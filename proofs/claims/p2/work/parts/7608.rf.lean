theorem dr_cX17_next_0 : decode cX17_next 0 = .ok (.iconst 0, 1) := by decide +kernel
theorem dr_cX17_next_1 : decode cX17_next 1 = .ok (.istore_n 2, 1) := by decide +kernel
theorem dr_cX17_next_2 : decode cX17_next 2 = .ok (.iload_n 2, 1) := by decide +kernel
theorem dr_cX17_next_3 : decode cX17_next 3 = .ok (.sipush 2000, 3) := by decide +kernel
theorem dr_cX17_next_6 : decode cX17_next 6 = .ok (.if_icmp .ge 30, 3) := by decide +kernel
theorem dr_cX17_next_36 : decode cX17_next 36 = .ok (.iconst (-1), 1) := by decide +kernel
theorem dr_cX17_next_37 : decode cX17_next 37 = .ok (.istore_n 2, 1) := by decide +kernel
theorem dr_cX17_next_38 : decode cX17_next 38 = .ok (.iconst 0, 1) := by decide +kernel
theorem dr_cX17_next_39 : decode cX17_next 39 = .ok (.istore_n 3, 1) := by decide +kernel
theorem dr_cX17_next_40 : decode cX17_next 40 = .ok (.iload_n 3, 1) := by decide +kernel
theorem dr_cX17_next_41 : decode cX17_next 41 = .ok (.sipush 2000, 3) := by decide +kernel
theorem dr_cX17_next_44 : decode cX17_next 44 = .ok (.if_icmp .ge 127, 3) := by decide +kernel
theorem dr_cX17_next_171 : decode cX17_next 171 = .ok (.iload_n 2, 1) := by decide +kernel
theorem dr_cX17_next_172 : decode cX17_next 172 = .ok (.ireturn, 1) := by decide +kernel
theorem dr_cX17_next_47 : decode cX17_next 47 = .ok (.aload_n 0, 1) := by decide +kernel
theorem dr_cX17_next_48 : decode cX17_next 48 = .ok (.getfield 206, 3) := by decide +kernel
theorem wr_7_92 : (Jvm.Cond.fieldLink "SpillForgeModel" (206 : Nat) "SpillForgeModel" "there" "[Z") ∈ gw := gw_7 92 rfl rfl
theorem dr_cX17_next_51 : decode cX17_next 51 = .ok (.iload_n 3, 1) := by decide +kernel
theorem dr_cX17_next_52 : decode cX17_next 52 = .ok (.baload, 1) := by decide +kernel
theorem dr_cX17_next_53 : decode cX17_next 53 = .ok (.ifCond .ne 6, 3) := by decide +kernel
theorem dr_cX17_next_59 : decode cX17_next 59 = .ok (.iload_n 2, 1) := by decide +kernel
theorem dr_cX17_next_60 : decode cX17_next 60 = .ok (.ifCond .ge 8, 3) := by decide +kernel
theorem dr_cX17_next_68 : decode cX17_next 68 = .ok (.iload_n 3, 1) := by decide +kernel
theorem dr_cX17_next_69 : decode cX17_next 69 = .ok (.bipush 100, 2) := by decide +kernel
theorem dr_cX17_next_71 : decode cX17_next 71 = .ok (.if_icmp .lt 7, 3) := by decide +kernel
theorem dr_cX17_next_78 : decode cX17_next 78 = .ok (.iconst 0, 1) := by decide +kernel
theorem dr_cX17_next_79 : decode cX17_next 79 = .ok (.istore 4, 2) := by decide +kernel
theorem dr_cX17_next_81 : decode cX17_next 81 = .ok (.iload_n 2, 1) := by decide +kernel
theorem dr_cX17_next_82 : decode cX17_next 82 = .ok (.bipush 100, 2) := by decide +kernel
theorem dr_cX17_next_84 : decode cX17_next 84 = .ok (.if_icmp .lt 7, 3) := by decide +kernel
theorem dr_cX17_next_91 : decode cX17_next 91 = .ok (.iconst 0, 1) := by decide +kernel
theorem dr_cX17_next_92 : decode cX17_next 92 = .ok (.istore 5, 2) := by decide +kernel
theorem dr_cX17_next_94 : decode cX17_next 94 = .ok (.iload 4, 2) := by decide +kernel
theorem dr_cX17_next_96 : decode cX17_next 96 = .ok (.ifCond .eq 11, 3) := by decide +kernel
theorem dr_cX17_next_107 : decode cX17_next 107 = .ok (.aload_n 0, 1) := by decide +kernel
theorem dr_cX17_next_108 : decode cX17_next 108 = .ok (.getfield 174, 3) := by decide +kernel
theorem wr_7_79 : (Jvm.Cond.fieldLink "SpillForgeModel" (174 : Nat) "SpillForgeModel" "weight" "[I") ∈ gw := gw_7 79 rfl rfl
theorem dr_cX17_next_111 : decode cX17_next 111 = .ok (.iload_n 3, 1) := by decide +kernel
theorem dr_cX17_next_112 : decode cX17_next 112 = .ok (.iaload, 1) := by decide +kernel
theorem dr_cX17_next_113 : decode cX17_next 113 = .ok (.i2l, 1) := by decide +kernel
theorem dr_cX17_next_114 : decode cX17_next 114 = .ok (.aload_n 0, 1) := by decide +kernel
theorem dr_cX17_next_115 : decode cX17_next 115 = .ok (.getfield 209, 3) := by decide +kernel
theorem wr_7_90 : (Jvm.Cond.fieldLink "SpillForgeModel" (209 : Nat) "SpillForgeModel" "left" "[I") ∈ gw := gw_7 90 rfl rfl
theorem dr_cX17_next_118 : decode cX17_next 118 = .ok (.iload_n 2, 1) := by decide +kernel
theorem dr_cX17_next_119 : decode cX17_next 119 = .ok (.iaload, 1) := by decide +kernel
theorem dr_cX17_next_120 : decode cX17_next 120 = .ok (.i2l, 1) := by decide +kernel
theorem dr_cX17_next_121 : decode cX17_next 121 = .ok (.lmul, 1) := by decide +kernel
theorem dr_cX17_next_122 : decode cX17_next 122 = .ok (.aload_n 0, 1) := by decide +kernel
theorem dr_cX17_next_123 : decode cX17_next 123 = .ok (.getfield 174, 3) := by decide +kernel
theorem dr_cX17_next_126 : decode cX17_next 126 = .ok (.iload_n 2, 1) := by decide +kernel
theorem dr_cX17_next_127 : decode cX17_next 127 = .ok (.iaload, 1) := by decide +kernel
theorem dr_cX17_next_128 : decode cX17_next 128 = .ok (.i2l, 1) := by decide +kernel
theorem dr_cX17_next_129 : decode cX17_next 129 = .ok (.aload_n 0, 1) := by decide +kernel
theorem dr_cX17_next_130 : decode cX17_next 130 = .ok (.getfield 209, 3) := by decide +kernel
theorem dr_cX17_next_133 : decode cX17_next 133 = .ok (.iload_n 3, 1) := by decide +kernel
theorem dr_cX17_next_134 : decode cX17_next 134 = .ok (.iaload, 1) := by decide +kernel
theorem dr_cX17_next_135 : decode cX17_next 135 = .ok (.i2l, 1) := by decide +kernel
theorem dr_cX17_next_136 : decode cX17_next 136 = .ok (.lmul, 1) := by decide +kernel
theorem dr_cX17_next_137 : decode cX17_next 137 = .ok (.lcmp, 1) := by decide +kernel
theorem dr_cX17_next_138 : decode cX17_next 138 = .ok (.ifCond .ge 7, 3) := by decide +kernel
theorem dr_cX17_next_145 : decode cX17_next 145 = .ok (.iconst 0, 1) := by decide +kernel
theorem dr_cX17_next_146 : decode cX17_next 146 = .ok (.istore 6, 2) := by decide +kernel
theorem dr_cX17_next_148 : decode cX17_next 148 = .ok (.iload 4, 2) := by decide +kernel
theorem dr_cX17_next_150 : decode cX17_next 150 = .ok (.ifCond .ne 8, 3) := by decide +kernel
theorem dr_cX17_next_153 : decode cX17_next 153 = .ok (.iload 5, 2) := by decide +kernel
theorem dr_cX17_next_155 : decode cX17_next 155 = .ok (.ifCond .ne 8, 3) := by decide +kernel
theorem dr_cX17_next_158 : decode cX17_next 158 = .ok (.iload 6, 2) := by decide +kernel
theorem dr_cX17_next_160 : decode cX17_next 160 = .ok (.ifCond .eq 5, 3) := by decide +kernel
theorem dr_cX17_next_165 : decode cX17_next 165 = .ok (.iinc 3 1, 3) := by decide +kernel
theorem dr_cX17_next_168 : decode cX17_next 168 = .ok (.goto (-128), 3) := by decide +kernel
theorem dr_cX17_next_141 : decode cX17_next 141 = .ok (.iconst 1, 1) := by decide +kernel
theorem dr_cX17_next_142 : decode cX17_next 142 = .ok (.goto 4, 3) := by decide +kernel
theorem dr_cX17_next_163 : decode cX17_next 163 = .ok (.iload_n 3, 1) := by decide +kernel
theorem dr_cX17_next_164 : decode cX17_next 164 = .ok (.istore_n 2, 1) := by decide +kernel
theorem dr_cX17_next_87 : decode cX17_next 87 = .ok (.iconst 1, 1) := by decide +kernel
theorem dr_cX17_next_88 : decode cX17_next 88 = .ok (.goto 4, 3) := by decide +kernel
theorem dr_cX17_next_74 : decode cX17_next 74 = .ok (.iconst 1, 1) := by decide +kernel
theorem dr_cX17_next_75 : decode cX17_next 75 = .ok (.goto 4, 3) := by decide +kernel
theorem dr_cX17_next_99 : decode cX17_next 99 = .ok (.iload 5, 2) := by decide +kernel
theorem dr_cX17_next_101 : decode cX17_next 101 = .ok (.ifCond .ne 6, 3) := by decide +kernel
theorem dr_cX17_next_104 : decode cX17_next 104 = .ok (.goto 61, 3) := by decide +kernel
theorem dr_cX17_next_63 : decode cX17_next 63 = .ok (.iload_n 3, 1) := by decide +kernel
theorem dr_cX17_next_64 : decode cX17_next 64 = .ok (.istore_n 2, 1) := by decide +kernel
theorem dr_cX17_next_65 : decode cX17_next 65 = .ok (.goto 100, 3) := by decide +kernel
theorem dr_cX17_next_56 : decode cX17_next 56 = .ok (.goto 109, 3) := by decide +kernel
theorem dr_cX17_next_9 : decode cX17_next 9 = .ok (.aload_n 0, 1) := by decide +kernel
theorem dr_cX17_next_10 : decode cX17_next 10 = .ok (.getfield 206, 3) := by decide +kernel
theorem dr_cX17_next_13 : decode cX17_next 13 = .ok (.iload_n 2, 1) := by decide +kernel
theorem dr_cX17_next_14 : decode cX17_next 14 = .ok (.baload, 1) := by decide +kernel
theorem dr_cX17_next_15 : decode cX17_next 15 = .ok (.ifCond .eq 15, 3) := by decide +kernel
theorem dr_cX17_next_30 : decode cX17_next 30 = .ok (.iinc 2 1, 3) := by decide +kernel
theorem dr_cX17_next_33 : decode cX17_next 33 = .ok (.goto (-31), 3) := by decide +kernel
theorem dr_cX17_next_18 : decode cX17_next 18 = .ok (.aload_n 0, 1) := by decide +kernel
theorem dr_cX17_next_19 : decode cX17_next 19 = .ok (.getfield 209, 3) := by decide +kernel
theorem dr_cX17_next_22 : decode cX17_next 22 = .ok (.iload_n 2, 1) := by decide +kernel
theorem dr_cX17_next_23 : decode cX17_next 23 = .ok (.iaload, 1) := by decide +kernel
theorem dr_cX17_next_24 : decode cX17_next 24 = .ok (.iload_n 1, 1) := by decide +kernel
theorem dr_cX17_next_25 : decode cX17_next 25 = .ok (.if_icmp .ge 5, 3) := by decide +kernel
theorem dr_cX17_next_28 : decode cX17_next 28 = .ok (.iload_n 2, 1) := by decide +kernel
theorem dr_cX17_next_29 : decode cX17_next 29 = .ok (.ireturn, 1) := by decide +kernel
theorem dr_cX17_findDepth_0 : decode cX17_findDepth 0 = .ok (.iconst 0, 1) := by decide +kernel
theorem dr_cX17_findDepth_1 : decode cX17_findDepth 1 = .ok (.istore_n 2, 1) := by decide +kernel
theorem dr_cX17_findDepth_2 : decode cX17_findDepth 2 = .ok (.iload_n 2, 1) := by decide +kernel
theorem dr_cX17_findDepth_3 : decode cX17_findDepth 3 = .ok (.aload_n 1, 1) := by decide +kernel
theorem dr_cX17_findDepth_4 : decode cX17_findDepth 4 = .ok (.invokevirtual 96, 3) := by decide +kernel
theorem dr_cX17_findDepth_7 : decode cX17_findDepth 7 = .ok (.if_icmp .ge 16, 3) := by decide +kernel
theorem dr_cX17_findDepth_23 : decode cX17_findDepth 23 = .ok (.aload_n 1, 1) := by decide +kernel
theorem dr_cX17_findDepth_24 : decode cX17_findDepth 24 = .ok (.iconst (-1), 1) := by decide +kernel
theorem dr_cX17_findDepth_25 : decode cX17_findDepth 25 = .ok (.invokestatic 156, 3) := by decide +kernel
theorem wr_11_41 : (Jvm.Cond.methodLink "SpillForgeModel" (156 : Nat) ({ cls := "SpillForgeModel", name := "reached", desc := "(LSpillForgeModel$Code;I)J" } : Jvm.MethodName)) ∈ gw := gw_11 41 rfl rfl
theorem wr_11_43 : (Jvm.Cond.code ({ cls := "SpillForgeModel", name := "reached", desc := "(LSpillForgeModel$Code;I)J" } : Jvm.MethodName) prog_14_method_12_code (8 : Nat) (Option.some Jvm.ClassFile.FieldType.long)) ∈ gw := gw_11 43 rfl rfl
theorem wr_11_42 : (Jvm.Cond.static ({ cls := "SpillForgeModel", name := "reached", desc := "(LSpillForgeModel$Code;I)J" } : Jvm.MethodName)) ∈ gw := gw_11 42 rfl rfl
theorem dr_cX17_findDepth_28 : decode cX17_findDepth 28 = .ok (.lstore_n 2, 1) := by decide +kernel
theorem dr_cX17_findDepth_29 : decode cX17_findDepth 29 = .ok (.iconst 0, 1) := by decide +kernel
theorem dr_cX17_findDepth_30 : decode cX17_findDepth 30 = .ok (.istore 4, 2) := by decide +kernel
theorem dr_cX17_findDepth_32 : decode cX17_findDepth 32 = .ok (.iload 4, 2) := by decide +kernel
theorem dr_cX17_findDepth_34 : decode cX17_findDepth 34 = .ok (.aload_n 1, 1) := by decide +kernel
theorem dr_cX17_findDepth_35 : decode cX17_findDepth 35 = .ok (.invokevirtual 96, 3) := by decide +kernel
theorem dr_cX17_findDepth_38 : decode cX17_findDepth 38 = .ok (.if_icmp .ge 301, 3) := by decide +kernel
theorem dr_cX17_findDepth_339 : decode cX17_findDepth 339 = .ok (.iconst 0, 1) := by decide +kernel
theorem dr_cX17_findDepth_340 : decode cX17_findDepth 340 = .ok (.istore 4, 2) := by decide +kernel
theorem dr_cX17_findDepth_342 : decode cX17_findDepth 342 = .ok (.iload 4, 2) := by decide +kernel
theorem dr_cX17_findDepth_344 : decode cX17_findDepth 344 = .ok (.aload_n 1, 1) := by decide +kernel
theorem dr_cX17_findDepth_345 : decode cX17_findDepth 345 = .ok (.invokevirtual 96, 3) := by decide +kernel
theorem dr_cX17_findDepth_348 : decode cX17_findDepth 348 = .ok (.if_icmp .ge 27, 3) := by decide +kernel
theorem dr_cX17_findDepth_375 : decode cX17_findDepth 375 = .ok (.return_, 1) := by decide +kernel
theorem dr_cX17_findDepth_351 : decode cX17_findDepth 351 = .ok (.aload_n 0, 1) := by decide +kernel
theorem dr_cX17_findDepth_352 : decode cX17_findDepth 352 = .ok (.getfield 152, 3) := by decide +kernel
theorem wr_7_78 : (Jvm.Cond.fieldLink "SpillForgeModel" (152 : Nat) "SpillForgeModel" "depth" "[I") ∈ gw := gw_7 78 rfl rfl
theorem dr_cX17_findDepth_355 : decode cX17_findDepth 355 = .ok (.iload 4, 2) := by decide +kernel
theorem dr_cX17_findDepth_357 : decode cX17_findDepth 357 = .ok (.aload_n 0, 1) := by decide +kernel
theorem dr_cX17_findDepth_358 : decode cX17_findDepth 358 = .ok (.getfield 152, 3) := by decide +kernel
theorem dr_cX17_findDepth_361 : decode cX17_findDepth 361 = .ok (.iload 4, 2) := by decide +kernel
theorem dr_cX17_findDepth_363 : decode cX17_findDepth 363 = .ok (.iaload, 1) := by decide +kernel
theorem dr_cX17_findDepth_364 : decode cX17_findDepth 364 = .ok (.iconst 4, 1) := by decide +kernel
theorem dr_cX17_findDepth_365 : decode cX17_findDepth 365 = .ok (.invokestatic 164, 3) := by decide +kernel
theorem wr_11_20 : (Jvm.Cond.methodLink "SpillForgeModel" (164 : Nat) ({ cls := "java/lang/Math", name := "min", desc := "(II)I" } : Jvm.MethodName)) ∈ gw := gw_11 20 rfl rfl
theorem dr_cX17_findDepth_368 : decode cX17_findDepth 368 = .ok (.iastore, 1) := by decide +kernel
theorem dr_cX17_findDepth_369 : decode cX17_findDepth 369 = .ok (.iinc 4 1, 3) := by decide +kernel
theorem dr_cX17_findDepth_372 : decode cX17_findDepth 372 = .ok (.goto (-30), 3) := by decide +kernel
theorem dr_cX17_findDepth_41 : decode cX17_findDepth 41 = .ok (.lload_n 2, 1) := by decide +kernel
theorem dr_cX17_findDepth_42 : decode cX17_findDepth 42 = .ok (.iload 4, 2) := by decide +kernel
theorem dr_cX17_findDepth_44 : decode cX17_findDepth 44 = .ok (.lushr, 1) := by decide +kernel
theorem dr_cX17_findDepth_45 : decode cX17_findDepth 45 = .ok (.lconst 1, 1) := by decide +kernel
theorem dr_cX17_findDepth_46 : decode cX17_findDepth 46 = .ok (.land, 1) := by decide +kernel
theorem dr_cX17_findDepth_47 : decode cX17_findDepth 47 = .ok (.lconst 0, 1) := by decide +kernel
theorem dr_cX17_findDepth_48 : decode cX17_findDepth 48 = .ok (.lcmp, 1) := by decide +kernel
theorem dr_cX17_findDepth_49 : decode cX17_findDepth 49 = .ok (.ifCond .ne 6, 3) := by decide +kernel
theorem dr_cX17_findDepth_55 : decode cX17_findDepth 55 = .ok (.lload_n 2, 1) := by decide +kernel
theorem dr_cX17_findDepth_56 : decode cX17_findDepth 56 = .ok (.aload_n 1, 1) := by decide +kernel
theorem dr_cX17_findDepth_57 : decode cX17_findDepth 57 = .ok (.iload 4, 2) := by decide +kernel
theorem dr_cX17_findDepth_59 : decode cX17_findDepth 59 = .ok (.invokestatic 156, 3) := by decide +kernel
theorem dr_cX17_findDepth_62 : decode cX17_findDepth 62 = .ok (.ldc2_w 31, 3) := by decide +kernel
theorem dr_cX17_findDepth_65 : decode cX17_findDepth 65 = .ok (.lxor, 1) := by decide +kernel
theorem dr_cX17_findDepth_66 : decode cX17_findDepth 66 = .ok (.land, 1) := by decide +kernel
theorem dr_cX17_findDepth_67 : decode cX17_findDepth 67 = .ok (.lstore 5, 2) := by decide +kernel
theorem dr_cX17_findDepth_69 : decode cX17_findDepth 69 = .ok (.lconst 0, 1) := by decide +kernel
theorem dr_cX17_findDepth_70 : decode cX17_findDepth 70 = .ok (.lstore 7, 2) := by decide +kernel
theorem dr_cX17_findDepth_72 : decode cX17_findDepth 72 = .ok (.iconst 0, 1) := by decide +kernel
theorem dr_cX17_findDepth_73 : decode cX17_findDepth 73 = .ok (.istore 9, 2) := by decide +kernel
theorem dr_cX17_findDepth_75 : decode cX17_findDepth 75 = .ok (.iload 9, 2) := by decide +kernel
theorem dr_cX17_findDepth_77 : decode cX17_findDepth 77 = .ok (.aload_n 1, 1) := by decide +kernel
theorem dr_cX17_findDepth_78 : decode cX17_findDepth 78 = .ok (.invokevirtual 96, 3) := by decide +kernel
theorem dr_cX17_findDepth_81 : decode cX17_findDepth 81 = .ok (.if_icmp .ge 44, 3) := by decide +kernel
theorem dr_cX17_findDepth_125 : decode cX17_findDepth 125 = .ok (.lload 7, 2) := by decide +kernel
theorem dr_cX17_findDepth_127 : decode cX17_findDepth 127 = .ok (.lconst 0, 1) := by decide +kernel
theorem dr_cX17_findDepth_128 : decode cX17_findDepth 128 = .ok (.lcmp, 1) := by decide +kernel
theorem dr_cX17_findDepth_129 : decode cX17_findDepth 129 = .ok (.ifCond .ne 6, 3) := by decide +kernel
theorem dr_cX17_findDepth_135 : decode cX17_findDepth 135 = .ok (.lload 7, 2) := by decide +kernel
theorem dr_cX17_findDepth_137 : decode cX17_findDepth 137 = .ok (.lconst 1, 1) := by decide +kernel
theorem dr_cX17_findDepth_138 : decode cX17_findDepth 138 = .ok (.iload 4, 2) := by decide +kernel
theorem dr_cX17_findDepth_140 : decode cX17_findDepth 140 = .ok (.lshl, 1) := by decide +kernel
theorem dr_cX17_findDepth_141 : decode cX17_findDepth 141 = .ok (.lor, 1) := by decide +kernel
theorem dr_cX17_findDepth_142 : decode cX17_findDepth 142 = .ok (.lstore 7, 2) := by decide +kernel
theorem dr_cX17_findDepth_144 : decode cX17_findDepth 144 = .ok (.iconst 1, 1) := by decide +kernel
theorem dr_cX17_findDepth_145 : decode cX17_findDepth 145 = .ok (.istore 9, 2) := by decide +kernel
theorem dr_cX17_findDepth_147 : decode cX17_findDepth 147 = .ok (.iload 9, 2) := by decide +kernel
theorem dr_cX17_findDepth_149 : decode cX17_findDepth 149 = .ok (.ifCond .eq 148, 3) := by decide +kernel
theorem dr_cX17_findDepth_297 : decode cX17_findDepth 297 = .ok (.iconst 0, 1) := by decide +kernel
theorem dr_cX17_findDepth_298 : decode cX17_findDepth 298 = .ok (.istore 10, 2) := by decide +kernel
theorem dr_cX17_findDepth_300 : decode cX17_findDepth 300 = .ok (.iload 10, 2) := by decide +kernel
theorem dr_cX17_findDepth_302 : decode cX17_findDepth 302 = .ok (.aload_n 1, 1) := by decide +kernel
theorem dr_cX17_findDepth_303 : decode cX17_findDepth 303 = .ok (.invokevirtual 96, 3) := by decide +kernel
theorem dr_cX17_findDepth_306 : decode cX17_findDepth 306 = .ok (.if_icmp .ge 27, 3) := by decide +kernel
theorem dr_cX17_findDepth_333 : decode cX17_findDepth 333 = .ok (.iinc 4 1, 3) := by decide +kernel
theorem dr_cX17_findDepth_336 : decode cX17_findDepth 336 = .ok (.goto (-304), 3) := by decide +kernel
theorem dr_cX17_findDepth_309 : decode cX17_findDepth 309 = .ok (.aload_n 0, 1) := by decide +kernel
theorem dr_cX17_findDepth_310 : decode cX17_findDepth 310 = .ok (.getfield 152, 3) := by decide +kernel
theorem dr_cX17_findDepth_313 : decode cX17_findDepth 313 = .ok (.iload 10, 2) := by decide +kernel
theorem dr_cX17_findDepth_315 : decode cX17_findDepth 315 = .ok (.dup2, 1) := by decide +kernel
theorem dr_cX17_findDepth_316 : decode cX17_findDepth 316 = .ok (.iaload, 1) := by decide +kernel
theorem dr_cX17_findDepth_317 : decode cX17_findDepth 317 = .ok (.lload 7, 2) := by decide +kernel
theorem dr_cX17_findDepth_319 : decode cX17_findDepth 319 = .ok (.iload 10, 2) := by decide +kernel
theorem dr_cX17_findDepth_321 : decode cX17_findDepth 321 = .ok (.lushr, 1) := by decide +kernel
theorem dr_cX17_findDepth_322 : decode cX17_findDepth 322 = .ok (.lconst 1, 1) := by decide +kernel
theorem dr_cX17_findDepth_323 : decode cX17_findDepth 323 = .ok (.land, 1) := by decide +kernel
theorem dr_cX17_findDepth_324 : decode cX17_findDepth 324 = .ok (.l2i, 1) := by decide +kernel
theorem dr_cX17_findDepth_325 : decode cX17_findDepth 325 = .ok (.iadd, 1) := by decide +kernel
theorem dr_cX17_findDepth_326 : decode cX17_findDepth 326 = .ok (.iastore, 1) := by decide +kernel
theorem dr_cX17_findDepth_327 : decode cX17_findDepth 327 = .ok (.iinc 10 1, 3) := by decide +kernel
theorem dr_cX17_findDepth_330 : decode cX17_findDepth 330 = .ok (.goto (-30), 3) := by decide +kernel
theorem dr_cX17_findDepth_152 : decode cX17_findDepth 152 = .ok (.iconst 0, 1) := by decide +kernel
theorem dr_cX17_findDepth_153 : decode cX17_findDepth 153 = .ok (.istore 9, 2) := by decide +kernel
theorem dr_cX17_findDepth_155 : decode cX17_findDepth 155 = .ok (.iconst 0, 1) := by decide +kernel
theorem dr_cX17_findDepth_156 : decode cX17_findDepth 156 = .ok (.istore 10, 2) := by decide +kernel
theorem dr_cX17_findDepth_158 : decode cX17_findDepth 158 = .ok (.iload 10, 2) := by decide +kernel
theorem dr_cX17_findDepth_160 : decode cX17_findDepth 160 = .ok (.aload_n 1, 1) := by decide +kernel
theorem dr_cX17_findDepth_161 : decode cX17_findDepth 161 = .ok (.invokevirtual 96, 3) := by decide +kernel
theorem dr_cX17_findDepth_164 : decode cX17_findDepth 164 = .ok (.if_icmp .ge 130, 3) := by decide +kernel
theorem dr_cX17_findDepth_294 : decode cX17_findDepth 294 = .ok (.goto (-147), 3) := by decide +kernel
theorem dr_cX17_findDepth_167 : decode cX17_findDepth 167 = .ok (.lload 7, 2) := by decide +kernel
theorem dr_cX17_findDepth_169 : decode cX17_findDepth 169 = .ok (.iload 10, 2) := by decide +kernel
theorem dr_cX17_findDepth_171 : decode cX17_findDepth 171 = .ok (.lushr, 1) := by decide +kernel
theorem dr_cX17_findDepth_172 : decode cX17_findDepth 172 = .ok (.lconst 1, 1) := by decide +kernel
theorem dr_cX17_findDepth_173 : decode cX17_findDepth 173 = .ok (.land, 1) := by decide +kernel
theorem dr_cX17_findDepth_174 : decode cX17_findDepth 174 = .ok (.lconst 0, 1) := by decide +kernel
theorem dr_cX17_findDepth_175 : decode cX17_findDepth 175 = .ok (.lcmp, 1) := by decide +kernel
theorem dr_cX17_findDepth_176 : decode cX17_findDepth 176 = .ok (.ifCond .ne 112, 3) := by decide +kernel
theorem dr_cX17_findDepth_288 : decode cX17_findDepth 288 = .ok (.iinc 10 1, 3) := by decide +kernel
theorem dr_cX17_findDepth_291 : decode cX17_findDepth 291 = .ok (.goto (-133), 3) := by decide +kernel
theorem dr_cX17_findDepth_179 : decode cX17_findDepth 179 = .ok (.lload_n 2, 1) := by decide +kernel
theorem dr_cX17_findDepth_180 : decode cX17_findDepth 180 = .ok (.iload 10, 2) := by decide +kernel
theorem dr_cX17_findDepth_182 : decode cX17_findDepth 182 = .ok (.lushr, 1) := by decide +kernel
theorem dr_cX17_findDepth_183 : decode cX17_findDepth 183 = .ok (.lconst 1, 1) := by decide +kernel
theorem dr_cX17_findDepth_184 : decode cX17_findDepth 184 = .ok (.land, 1) := by decide +kernel
theorem dr_cX17_findDepth_185 : decode cX17_findDepth 185 = .ok (.lconst 0, 1) := by decide +kernel
theorem dr_cX17_findDepth_186 : decode cX17_findDepth 186 = .ok (.lcmp, 1) := by decide +kernel
theorem dr_cX17_findDepth_187 : decode cX17_findDepth 187 = .ok (.ifCond .ne 6, 3) := by decide +kernel
theorem dr_cX17_findDepth_193 : decode cX17_findDepth 193 = .ok (.iconst 0, 1) := by decide +kernel
theorem dr_cX17_findDepth_194 : decode cX17_findDepth 194 = .ok (.istore 11, 2) := by decide +kernel
theorem dr_cX17_findDepth_196 : decode cX17_findDepth 196 = .ok (.iconst 0, 1) := by decide +kernel
theorem dr_cX17_findDepth_197 : decode cX17_findDepth 197 = .ok (.istore 12, 2) := by decide +kernel
theorem dr_cX17_findDepth_199 : decode cX17_findDepth 199 = .ok (.iload 12, 2) := by decide +kernel
theorem dr_cX17_findDepth_201 : decode cX17_findDepth 201 = .ok (.aload_n 1, 1) := by decide +kernel
theorem dr_cX17_findDepth_202 : decode cX17_findDepth 202 = .ok (.iload 10, 2) := by decide +kernel
theorem dr_cX17_findDepth_204 : decode cX17_findDepth 204 = .ok (.invokevirtual 101, 3) := by decide +kernel
theorem dr_cX17_findDepth_207 : decode cX17_findDepth 207 = .ok (.invokevirtual 82, 3) := by decide +kernel
theorem dr_cX17_findDepth_210 : decode cX17_findDepth 210 = .ok (.if_icmp .ge 58, 3) := by decide +kernel
theorem dr_cX17_findDepth_268 : decode cX17_findDepth 268 = .ok (.iload 11, 2) := by decide +kernel
theorem dr_cX17_findDepth_270 : decode cX17_findDepth 270 = .ok (.ifCond .ne 6, 3) := by decide +kernel
theorem dr_cX17_findDepth_276 : decode cX17_findDepth 276 = .ok (.lload 7, 2) := by decide +kernel
theorem dr_cX17_findDepth_278 : decode cX17_findDepth 278 = .ok (.lconst 1, 1) := by decide +kernel
theorem dr_cX17_findDepth_279 : decode cX17_findDepth 279 = .ok (.iload 10, 2) := by decide +kernel
theorem dr_cX17_findDepth_281 : decode cX17_findDepth 281 = .ok (.lshl, 1) := by decide +kernel
theorem dr_cX17_findDepth_282 : decode cX17_findDepth 282 = .ok (.lor, 1) := by decide +kernel
theorem dr_cX17_findDepth_283 : decode cX17_findDepth 283 = .ok (.lstore 7, 2) := by decide +kernel
theorem dr_cX17_findDepth_285 : decode cX17_findDepth 285 = .ok (.iconst 1, 1) := by decide +kernel
theorem dr_cX17_findDepth_286 : decode cX17_findDepth 286 = .ok (.istore 9, 2) := by decide +kernel
theorem dr_cX17_findDepth_273 : decode cX17_findDepth 273 = .ok (.goto 15, 3) := by decide +kernel
theorem dr_cX17_findDepth_213 : decode cX17_findDepth 213 = .ok (.iload 11, 2) := by decide +kernel
theorem dr_cX17_findDepth_215 : decode cX17_findDepth 215 = .ok (.ifCond .ne 40, 3) := by decide +kernel
theorem dr_cX17_findDepth_255 : decode cX17_findDepth 255 = .ok (.iconst 1, 1) := by decide +kernel
theorem dr_cX17_findDepth_256 : decode cX17_findDepth 256 = .ok (.goto 4, 3) := by decide +kernel
theorem dr_cX17_findDepth_260 : decode cX17_findDepth 260 = .ok (.istore 11, 2) := by decide +kernel
theorem dr_cX17_findDepth_262 : decode cX17_findDepth 262 = .ok (.iinc 12 1, 3) := by decide +kernel
theorem dr_cX17_findDepth_265 : decode cX17_findDepth 265 = .ok (.goto (-66), 3) := by decide +kernel
theorem dr_cX17_findDepth_218 : decode cX17_findDepth 218 = .ok (.aload_n 1, 1) := by decide +kernel
theorem dr_cX17_findDepth_219 : decode cX17_findDepth 219 = .ok (.iload 10, 2) := by decide +kernel
theorem dr_cX17_findDepth_221 : decode cX17_findDepth 221 = .ok (.invokevirtual 101, 3) := by decide +kernel
theorem dr_cX17_findDepth_224 : decode cX17_findDepth 224 = .ok (.iload 12, 2) := by decide +kernel
theorem dr_cX17_findDepth_226 : decode cX17_findDepth 226 = .ok (.invokevirtual 92, 3) := by decide +kernel
theorem dr_cX17_findDepth_229 : decode cX17_findDepth 229 = .ok (.iload 4, 2) := by decide +kernel
theorem dr_cX17_findDepth_231 : decode cX17_findDepth 231 = .ok (.if_icmp .eq 28, 3) := by decide +kernel
theorem dr_cX17_findDepth_259 : decode cX17_findDepth 259 = .ok (.iconst 0, 1) := by decide +kernel
theorem dr_cX17_findDepth_234 : decode cX17_findDepth 234 = .ok (.lload 7, 2) := by decide +kernel
theorem dr_cX17_findDepth_236 : decode cX17_findDepth 236 = .ok (.aload_n 1, 1) := by decide +kernel
theorem dr_cX17_findDepth_237 : decode cX17_findDepth 237 = .ok (.iload 10, 2) := by decide +kernel
theorem dr_cX17_findDepth_239 : decode cX17_findDepth 239 = .ok (.invokevirtual 101, 3) := by decide +kernel
theorem dr_cX17_findDepth_242 : decode cX17_findDepth 242 = .ok (.iload 12, 2) := by decide +kernel
theorem dr_cX17_findDepth_244 : decode cX17_findDepth 244 = .ok (.invokevirtual 92, 3) := by decide +kernel
theorem dr_cX17_findDepth_247 : decode cX17_findDepth 247 = .ok (.lushr, 1) := by decide +kernel
theorem dr_cX17_findDepth_248 : decode cX17_findDepth 248 = .ok (.lconst 1, 1) := by decide +kernel
theorem dr_cX17_findDepth_249 : decode cX17_findDepth 249 = .ok (.land, 1) := by decide +kernel
theorem dr_cX17_findDepth_250 : decode cX17_findDepth 250 = .ok (.lconst 0, 1) := by decide +kernel
theorem dr_cX17_findDepth_251 : decode cX17_findDepth 251 = .ok (.lcmp, 1) := by decide +kernel
theorem dr_cX17_findDepth_252 : decode cX17_findDepth 252 = .ok (.ifCond .eq 7, 3) := by decide +kernel
theorem dr_cX17_findDepth_190 : decode cX17_findDepth 190 = .ok (.goto 98, 3) := by decide +kernel
theorem dr_cX17_findDepth_132 : decode cX17_findDepth 132 = .ok (.goto 201, 3) := by decide +kernel
theorem dr_cX17_findDepth_84 : decode cX17_findDepth 84 = .ok (.lload 5, 2) := by decide +kernel
theorem dr_cX17_findDepth_86 : decode cX17_findDepth 86 = .ok (.iload 9, 2) := by decide +kernel
theorem dr_cX17_findDepth_88 : decode cX17_findDepth 88 = .ok (.lushr, 1) := by decide +kernel
theorem dr_cX17_findDepth_89 : decode cX17_findDepth 89 = .ok (.lconst 1, 1) := by decide +kernel
theorem dr_cX17_findDepth_90 : decode cX17_findDepth 90 = .ok (.land, 1) := by decide +kernel
theorem dr_cX17_findDepth_91 : decode cX17_findDepth 91 = .ok (.lconst 0, 1) := by decide +kernel
theorem dr_cX17_findDepth_92 : decode cX17_findDepth 92 = .ok (.lcmp, 1) := by decide +kernel
theorem dr_cX17_findDepth_93 : decode cX17_findDepth 93 = .ok (.ifCond .eq 26, 3) := by decide +kernel
theorem dr_cX17_findDepth_119 : decode cX17_findDepth 119 = .ok (.iinc 9 1, 3) := by decide +kernel
theorem dr_cX17_findDepth_122 : decode cX17_findDepth 122 = .ok (.goto (-47), 3) := by decide +kernel
theorem dr_cX17_findDepth_96 : decode cX17_findDepth 96 = .ok (.aload_n 1, 1) := by decide +kernel
theorem dr_cX17_findDepth_97 : decode cX17_findDepth 97 = .ok (.iload 9, 2) := by decide +kernel
theorem dr_cX17_findDepth_99 : decode cX17_findDepth 99 = .ok (.invokevirtual 101, 3) := by decide +kernel
theorem dr_cX17_findDepth_102 : decode cX17_findDepth 102 = .ok (.iload 4, 2) := by decide +kernel
theorem dr_cX17_findDepth_104 : decode cX17_findDepth 104 = .ok (.invokestatic 160, 3) := by decide +kernel
theorem wr_11_44 : (Jvm.Cond.methodLink "SpillForgeModel" (160 : Nat) ({ cls := "SpillForgeModel", name := "leads", desc := "(LSpillForgeModel$Block;I)Z" } : Jvm.MethodName)) ∈ gw := gw_11 44 rfl rfl
theorem wr_11_46 : (Jvm.Cond.code ({ cls := "SpillForgeModel", name := "leads", desc := "(LSpillForgeModel$Block;I)Z" } : Jvm.MethodName) prog_14_method_13_code (3 : Nat) (Option.some Jvm.ClassFile.FieldType.boolean)) ∈ gw := gw_11 46 rfl rfl
theorem wr_11_45 : (Jvm.Cond.static ({ cls := "SpillForgeModel", name := "leads", desc := "(LSpillForgeModel$Block;I)Z" } : Jvm.MethodName)) ∈ gw := gw_11 45 rfl rfl
theorem dr_cX17_findDepth_107 : decode cX17_findDepth 107 = .ok (.ifCond .eq 12, 3) := by decide +kernel
theorem dr_cX17_findDepth_110 : decode cX17_findDepth 110 = .ok (.lload 7, 2) := by decide +kernel
theorem dr_cX17_findDepth_112 : decode cX17_findDepth 112 = .ok (.lconst 1, 1) := by decide +kernel
theorem dr_cX17_findDepth_113 : decode cX17_findDepth 113 = .ok (.iload 9, 2) := by decide +kernel
theorem dr_cX17_findDepth_115 : decode cX17_findDepth 115 = .ok (.lshl, 1) := by decide +kernel
theorem dr_cX17_findDepth_116 : decode cX17_findDepth 116 = .ok (.lor, 1) := by decide +kernel
theorem dr_cX17_findDepth_117 : decode cX17_findDepth 117 = .ok (.lstore 7, 2) := by decide +kernel
theorem dr_cX17_findDepth_52 : decode cX17_findDepth 52 = .ok (.goto 281, 3) := by decide +kernel
theorem dr_cX17_findDepth_10 : decode cX17_findDepth 10 = .ok (.aload_n 0, 1) := by decide +kernel
theorem dr_cX17_findDepth_11 : decode cX17_findDepth 11 = .ok (.getfield 152, 3) := by decide +kernel
theorem dr_cX17_findDepth_14 : decode cX17_findDepth 14 = .ok (.iload_n 2, 1) := by decide +kernel
theorem dr_cX17_findDepth_15 : decode cX17_findDepth 15 = .ok (.iconst 0, 1) := by decide +kernel
theorem dr_cX17_findDepth_16 : decode cX17_findDepth 16 = .ok (.iastore, 1) := by decide +kernel
theorem dr_cX17_findDepth_17 : decode cX17_findDepth 17 = .ok (.iinc 2 1, 3) := by decide +kernel
theorem dr_cX17_findDepth_20 : decode cX17_findDepth 20 = .ok (.goto (-18), 3) := by decide +kernel
abbrev ky_15688_SpillForgeModel_next : gKey := (cX17_next, 7, "SpillForgeModel", (some FieldType.int), [], "next", fun _ _ => True)
def pt_15688_SpillForgeModel_next (D : va_G) (I : FieldType → ClassId) (γ el : Nat → Nat → Nat) (P15684 : List Nat) (F15685 : Nat → va_E) (q15686 : Nat) (p15687 : Int32) : Option Value → va_W → Nat → Nat → Prop := fun r w dc ds => ∃ (o17240 : Int32), r = some (.int o17240) ∧ w = va_pl P15684 F15685 ∧ dc ≤ 0 ∧ ds ≤ 0 ∧ gB o17240 (-1) 1999
set_option maxRecDepth 100000 in
set_option maxHeartbeats 4000000 in
theorem ct_15688_SpillForgeModel_next (l : Launch) (hl0 : l.stackTraces = false) (D : va_G) (I : FieldType → ClassId) (γ el : Nat → Nat → Nat) (P15684 : List Nat) (F15685 : Nat → va_E) (q15686 : Nat) (p15687 : Int32) (hT : RS D I P15684 F15685 γ el) (htq15686 : rKd γ q15686 10) : CtA (gV D I) l yX17_next cX17_next 7 (some FieldType.int) 0 0 0 0 [.ref q15686, .int p15687] (va_pl P15684 F15685) (pt_15688_SpillForgeModel_next D I γ el P15684 F15685 q15686 p15687) gNA := by
  refine CtA_of hl0 (by decide) (Nat.le_of_ble_eq_true rfl) ?_
  have bp15687 := gB_any p15687
  refine G_iconst 0 dr_cX17_next_0 (by decide +kernel) ?_
  refine G_istore_n (L' := [(2, .int 0), (0, .ref q15686), (1, .int p15687)]) dr_cX17_next_1 (Nat.le_of_ble_eq_true rfl) rfl ?_
  have hlp2_16891 : ∀ (n2_16891 : Nat) (g16891 : Int32), gB g16891 0 2000 → ((2001 : Int) - g16891.toInt).toNat < n2_16891 → G (gV D I) l (gRm 0 0 0 0) (gMA (gV D I) (pt_15688_SpillForgeModel_next D I γ el P15684 F15685 q15686 p15687) gNA 0 0) ky_15688_SpillForgeModel_next 2 [(2, .int g16891), (0, .ref q15686), (1, .int p15687)] [] (va_pl P15684 F15685) 0 0 := by
    intro n2_16891
    induction n2_16891 with
    | zero => intro g16891 bg16891 hm2_16891; exact absurd hm2_16891 (Nat.not_lt_zero _)
    | succ n2_16891 ih2_16891 =>
      intro g16891 bg16891 hm2_16891
      refine G_iload_n 0 dr_cX17_next_2 rfl ?_
      refine G_sipush 2000 dr_cX17_next_3 (by decide +kernel) ?_
      refine G_icmp_ge 36 dr_cX17_next_6 (by decide +kernel) (fun hc16893 => ?_) (fun hc16893 => ?_)
      · have r16894 : 2000 ≤ g16891.toInt := gj_leL hc16893 (show Int32.toInt 2000 = 2000 by decide)
        have bg16891' : gB g16891 2000 2000 := ⟨by omega, by omega⟩
        refine G_iconst (-1) dr_cX17_next_36 (by decide +kernel) ?_
        refine G_istore_n (L' := [(2, .int (-1)), (0, .ref q15686), (1, .int p15687)]) dr_cX17_next_37 (Nat.le_of_ble_eq_true rfl) rfl ?_
        refine G_iconst 0 dr_cX17_next_38 (by decide +kernel) ?_
        refine G_istore_n (L' := [(3, .int 0), (2, .int (-1)), (0, .ref q15686), (1, .int p15687)]) dr_cX17_next_39 (Nat.le_of_ble_eq_true rfl) rfl ?_
        have hlp40_17036 : ∀ (n40_17036 : Nat) (g17035 : Int32) (g17036 : Int32), gB g17035 0 2000 → gB g17036 (-1) 1999 → ((2001 : Int) - g17035.toInt).toNat < n40_17036 → G (gV D I) l (gRm 0 0 0 0) (gMA (gV D I) (pt_15688_SpillForgeModel_next D I γ el P15684 F15685 q15686 p15687) gNA 0 0) ky_15688_SpillForgeModel_next 40 [(3, .int g17035), (2, .int g17036), (0, .ref q15686), (1, .int p15687)] [] (va_pl P15684 F15685) 0 0 := by
          intro n40_17036
          induction n40_17036 with
          | zero => intro g17035 g17036 bg17035 bg17036 hm40_17036; exact absurd hm40_17036 (Nat.not_lt_zero _)
          | succ n40_17036 ih40_17036 =>
            intro g17035 g17036 bg17035 bg17036 hm40_17036
            refine G_iload_n 0 dr_cX17_next_40 rfl ?_
            refine G_sipush 2000 dr_cX17_next_41 (by decide +kernel) ?_
            refine G_icmp_ge 171 dr_cX17_next_44 (by decide +kernel) (fun hc17038 => ?_) (fun hc17038 => ?_)
            · have r17039 : 2000 ≤ g17035.toInt := gj_leL hc17038 (show Int32.toInt 2000 = 2000 by decide)
              have bg17035' : gB g17035 2000 2000 := ⟨by omega, by omega⟩
              refine G_iload_n 1 dr_cX17_next_171 rfl ?_
              exact G_iretA dr_cX17_next_172 rfl (Nat.le_of_ble_eq_true rfl) (Nat.le_of_ble_eq_true rfl) ⟨g17036, rfl, rfl, (Nat.le_of_ble_eq_true rfl), (Nat.le_of_ble_eq_true rfl), bg17036⟩
            · have r17040 : g17035.toInt < 2000 := gj_nleL hc17038 (show Int32.toInt 2000 = 2000 by decide)
              have bg17035' : gB g17035 0 1999 := ⟨by omega, by omega⟩
              refine G_aload_n 2 dr_cX17_next_47 rfl ?_
              have hm17041 : q15686 ∈ P15684 := RS_m hT htq15686 (by decide)
              obtain ⟨q17043, q17044, p17045, p17046, p17047, p17048, p17049, p17050, p17051, p17052, p17053, p17054, p17055, p17056, p17057, p17058, p17059, he17042, hB17086, ht17060, ht17061, ht17062, ht17063, ht17064, ht17065, ht17066, ht17067, ht17068, ht17069, ht17070, ht17071, ht17072, ht17073, ht17074, ht17075, ht17076, ht17077, ht17078, ht17079, ht17080, ht17081, ht17082, ht17083, hB17087⟩ := show rk_10 γ (F15685 q15686) from RS_o hT htq15686
              refine Gp_get 18 hm17041 he17042 dr_cX17_next_48 (gk_X17 D I) (Nat.le_of_ble_eq_true rfl) wr_7_92 rfl ?_
              refine G_iload_n 0 dr_cX17_next_51 rfl ?_
              have hm17088 : (γ 9 18) ∈ P15684 := RS_m hT ht17074 (by decide)
              obtain ⟨f17090, he17089, bf17090⟩ := show rk_15 I (F15685 (γ 9 18)) from RS_o hT ht17074
              refine Gp_zald 3 hm17088 he17089 dr_cX17_next_52 rfl (gB_in bg17035' (by decide) (by decide)) (G_nam fun z17091 hz17091 => ?_)
              have bz17091 : gB z17091 0 1 := by rw [hz17091]; exact bf17090 _
              refine G_if_ne 59 dr_cX17_next_53 (by decide +kernel) (fun hc17092 => ?_) (fun hc17092 => ?_)
              · have r17093 : z17091.toInt ≠ 0 := gj_neq hc17092 (show Int32.toInt 0 = 0 by decide)
                have bz17091' : gB z17091 1 1 := ⟨by omega, by omega⟩
                refine G_iload_n 1 dr_cX17_next_59 rfl ?_
                refine G_if_ge 68 dr_cX17_next_60 (by decide +kernel) (fun hc17094 => ?_) (fun hc17094 => ?_)
                · have r17095 : 0 ≤ g17036.toInt := gj_leL hc17094 (show Int32.toInt 0 = 0 by decide)
                  have bg17036' : gB g17036 0 1999 := ⟨by omega, by omega⟩
                  refine G_iload_n 0 dr_cX17_next_68 rfl ?_
                  refine G_bipush 100 dr_cX17_next_69 (by decide +kernel) ?_
                  refine G_icmp_lt 78 dr_cX17_next_71 (by decide +kernel) (fun hc17096 => ?_) (fun hc17096 => ?_)
                  · have r17097 : g17035.toInt < 100 := gj_lt hc17096 (show Int32.toInt 100 = 100 by decide)
                    have bg17035'' : gB g17035 0 99 := ⟨by omega, by omega⟩
                    refine G_iconst 0 dr_cX17_next_78 (by decide +kernel) ?_
                    refine G_istore (L' := [(4, .int 0), (3, .int g17035), (2, .int g17036), (0, .ref q15686), (1, .int p15687)]) dr_cX17_next_79 (Nat.le_of_ble_eq_true rfl) rfl ?_
                    refine G_iload_n 2 dr_cX17_next_81 rfl ?_
                    refine G_bipush 100 dr_cX17_next_82 (by decide +kernel) ?_
                    refine G_icmp_lt 91 dr_cX17_next_84 (by decide +kernel) (fun hc17098 => ?_) (fun hc17098 => ?_)
                    · have r17099 : g17036.toInt < 100 := gj_lt hc17098 (show Int32.toInt 100 = 100 by decide)
                      have bg17036'' : gB g17036 0 99 := ⟨by omega, by omega⟩
                      refine G_iconst 0 dr_cX17_next_91 (by decide +kernel) ?_
                      refine G_istore (L' := [(5, .int 0), (4, .int 0), (3, .int g17035), (2, .int g17036), (0, .ref q15686), (1, .int p15687)]) dr_cX17_next_92 (Nat.le_of_ble_eq_true rfl) rfl ?_
                      refine G_iload 1 dr_cX17_next_94 rfl ?_
                      refine G_if_eq 107 dr_cX17_next_96 (by decide +kernel) (fun _ => ?_) (fun hc => absurd hc (by decide))
                      refine G_aload_n 4 dr_cX17_next_107 rfl ?_
                      refine Gp_get 5 hm17041 he17042 dr_cX17_next_108 (gk_X17 D I) (Nat.le_of_ble_eq_true rfl) wr_7_79 rfl ?_
                      refine G_iload_n 2 dr_cX17_next_111 rfl ?_
                      have hm17100 : (γ 9 5) ∈ P15684 := RS_m hT ht17067 (by decide)
                      obtain ⟨f17102, he17101⟩ := show rk_17 I (F15685 (γ 9 5)) from RS_o hT ht17067
                      refine Gp_iald 0 hm17100 he17101 dr_cX17_next_112 rfl (gB_in bg17035'' (by decide) (by decide)) (G_nam fun z17103 hz17103 => ?_)
                      have bz17103 : gB z17103 (-2147483648) 2147483647 := gB_any z17103
                      refine G_i2l dr_cX17_next_113 (G_namL fun u17104 hu17104 => ?_)
                      refine G_aload_n 4 dr_cX17_next_114 rfl ?_
                      refine Gp_get 16 hm17041 he17042 dr_cX17_next_115 (gk_X17 D I) (Nat.le_of_ble_eq_true rfl) wr_7_90 rfl ?_
                      refine G_iload_n 3 dr_cX17_next_118 rfl ?_
                      have hm17105 : (γ 9 16) ∈ P15684 := RS_m hT ht17072 (by decide)
                      obtain ⟨f17107, he17106⟩ := show rk_19 I (F15685 (γ 9 16)) from RS_o hT ht17072
                      refine Gp_iald 0 hm17105 he17106 dr_cX17_next_119 rfl (gB_in bg17036'' (by decide) (by decide)) (G_nam fun z17108 hz17108 => ?_)
                      have bz17108 : gB z17108 (-2147483648) 2147483647 := gB_any z17108
                      refine G_i2l dr_cX17_next_120 (G_namL fun u17109 hu17109 => ?_)
                      refine G_lmul dr_cX17_next_121 (G_namL fun u17110 hu17110 => ?_)
                      refine G_aload_n 4 dr_cX17_next_122 rfl ?_
                      refine Gp_get 5 hm17041 he17042 dr_cX17_next_123 (gk_X17 D I) (Nat.le_of_ble_eq_true rfl) wr_7_79 rfl ?_
                      refine G_iload_n 3 dr_cX17_next_126 rfl ?_
                      refine Gp_iald 0 hm17100 he17101 dr_cX17_next_127 rfl (gB_in bg17036'' (by decide) (by decide)) (G_nam fun z17111 hz17111 => ?_)
                      have bz17111 : gB z17111 (-2147483648) 2147483647 := gB_any z17111
                      refine G_i2l dr_cX17_next_128 (G_namL fun u17112 hu17112 => ?_)
                      refine G_aload_n 4 dr_cX17_next_129 rfl ?_
                      refine Gp_get 16 hm17041 he17042 dr_cX17_next_130 (gk_X17 D I) (Nat.le_of_ble_eq_true rfl) wr_7_90 rfl ?_
                      refine G_iload_n 2 dr_cX17_next_133 rfl ?_
                      refine Gp_iald 0 hm17105 he17106 dr_cX17_next_134 rfl (gB_in bg17035'' (by decide) (by decide)) (G_nam fun z17113 hz17113 => ?_)
                      have bz17113 : gB z17113 (-2147483648) 2147483647 := gB_any z17113
                      refine G_i2l dr_cX17_next_135 (G_namL fun u17114 hu17114 => ?_)
                      refine G_lmul dr_cX17_next_136 (G_namL fun u17115 hu17115 => ?_)
                      refine G_lcmp dr_cX17_next_137 (G_nam fun z17116 hz17116 => ?_)
                      have bz17116 : gB z17116 (-1) 1 := gB_cmp hz17116
                      refine G_if_ge 145 dr_cX17_next_138 (by decide +kernel) (fun hc17117 => ?_) (fun hc17117 => ?_)
                      · have r17118 : 0 ≤ z17116.toInt := gj_leL hc17117 (show Int32.toInt 0 = 0 by decide)
                        have bz17116' : gB z17116 0 1 := ⟨by omega, by omega⟩
                        refine G_iconst 0 dr_cX17_next_145 (by decide +kernel) ?_
                        refine G_istore (L' := [(6, .int 0), (5, .int 0), (4, .int 0), (3, .int g17035), (2, .int g17036), (0, .ref q15686), (1, .int p15687)]) dr_cX17_next_146 (Nat.le_of_ble_eq_true rfl) rfl ?_
                        refine G_iload 2 dr_cX17_next_148 rfl ?_
                        refine G_if_ne 158 dr_cX17_next_150 (by decide +kernel) (fun hc => absurd hc (by decide)) (fun _ => ?_)
                        refine G_iload 1 dr_cX17_next_153 rfl ?_
                        refine G_if_ne 163 dr_cX17_next_155 (by decide +kernel) (fun hc => absurd hc (by decide)) (fun _ => ?_)
                        refine G_iload 0 dr_cX17_next_158 rfl ?_
                        refine G_if_eq 165 dr_cX17_next_160 (by decide +kernel) (fun _ => ?_) (fun hc => absurd hc (by decide))
                        obtain ⟨z17119, hz17119⟩ : ∃ z : Int32, z = g17035 + Int32.ofInt 1 := ⟨_, rfl⟩
                        have ez17119 : z17119.toInt = g17035.toInt + 1 := gI_inc hz17119 (by decide) bg17035'' (by decide) (by decide)
                        have bz17119 : gB z17119 1 100 := ⟨by omega, by omega⟩
                        refine G_iinc (L' := [(3, .int z17119), (6, .int 0), (5, .int 0), (4, .int 0), (2, .int g17036), (0, .ref q15686), (1, .int p15687)]) z17119 3 dr_cX17_next_165 rfl hz17119.symm (Nat.le_of_ble_eq_true rfl) rfl ?_
                        refine G_goto 40 dr_cX17_next_168 (by decide +kernel) ?_
                        refine G_lv (L' := [(3, .int z17119), (2, .int g17036), (0, .ref q15686), (1, .int p15687)]) [0, 4, 5, 6] rfl ?_
                        exact ih40_17036 z17119 g17036 (gB_w bz17119 (by decide) (by decide)) (gB_w bg17036'' (by decide) (by decide)) (by omega)
                      · have r17120 : z17116.toInt < 0 := gj_nleL hc17117 (show Int32.toInt 0 = 0 by decide)
                        have bz17116' : gB z17116 (-1) (-1) := ⟨by omega, by omega⟩
                        have lhc17117 := gC_cmpS hz17116 (by omega)
                        refine G_iconst 1 dr_cX17_next_141 (by decide +kernel) ?_
                        refine G_goto 146 dr_cX17_next_142 (by decide +kernel) ?_
                        refine G_istore (L' := [(6, .int 1), (5, .int 0), (4, .int 0), (3, .int g17035), (2, .int g17036), (0, .ref q15686), (1, .int p15687)]) dr_cX17_next_146 (Nat.le_of_ble_eq_true rfl) rfl ?_
                        refine G_iload 2 dr_cX17_next_148 rfl ?_
                        refine G_if_ne 158 dr_cX17_next_150 (by decide +kernel) (fun hc => absurd hc (by decide)) (fun _ => ?_)
                        refine G_iload 1 dr_cX17_next_153 rfl ?_
                        refine G_if_ne 163 dr_cX17_next_155 (by decide +kernel) (fun hc => absurd hc (by decide)) (fun _ => ?_)
                        refine G_iload 0 dr_cX17_next_158 rfl ?_
                        refine G_if_eq 165 dr_cX17_next_160 (by decide +kernel) (fun hc => absurd hc (by decide)) (fun _ => ?_)
                        refine G_iload_n 3 dr_cX17_next_163 rfl ?_
                        refine G_istore_n (L' := [(2, .int g17035), (6, .int 1), (5, .int 0), (4, .int 0), (3, .int g17035), (0, .ref q15686), (1, .int p15687)]) dr_cX17_next_164 (Nat.le_of_ble_eq_true rfl) rfl ?_
                        obtain ⟨z17121, hz17121⟩ : ∃ z : Int32, z = g17035 + Int32.ofInt 1 := ⟨_, rfl⟩
                        have ez17121 : z17121.toInt = g17035.toInt + 1 := gI_inc hz17121 (by decide) bg17035'' (by decide) (by decide)
                        have bz17121 : gB z17121 1 100 := ⟨by omega, by omega⟩
                        refine G_iinc (L' := [(3, .int z17121), (2, .int g17035), (6, .int 1), (5, .int 0), (4, .int 0), (0, .ref q15686), (1, .int p15687)]) z17121 4 dr_cX17_next_165 rfl hz17121.symm (Nat.le_of_ble_eq_true rfl) rfl ?_
                        refine G_goto 40 dr_cX17_next_168 (by decide +kernel) ?_
                        refine G_lv (L' := [(3, .int z17121), (2, .int g17035), (0, .ref q15686), (1, .int p15687)]) [0, 1, 5, 6] rfl ?_
                        exact ih40_17036 z17121 g17035 (gB_w bz17121 (by decide) (by decide)) (gB_w bg17035'' (by decide) (by decide)) (by omega)
                    · have r17122 : 100 ≤ g17036.toInt := gj_nlt hc17098 (show Int32.toInt 100 = 100 by decide)
                      have bg17036'' : gB g17036 100 1999 := ⟨by omega, by omega⟩
                      refine G_iconst 1 dr_cX17_next_87 (by decide +kernel) ?_
                      refine G_goto 92 dr_cX17_next_88 (by decide +kernel) ?_
                      refine G_istore (L' := [(5, .int 1), (4, .int 0), (3, .int g17035), (2, .int g17036), (0, .ref q15686), (1, .int p15687)]) dr_cX17_next_92 (Nat.le_of_ble_eq_true rfl) rfl ?_
                      refine G_iload 1 dr_cX17_next_94 rfl ?_
                      refine G_if_eq 107 dr_cX17_next_96 (by decide +kernel) (fun _ => ?_) (fun hc => absurd hc (by decide))
                      refine G_aload_n 4 dr_cX17_next_107 rfl ?_
                      refine Gp_get 5 hm17041 he17042 dr_cX17_next_108 (gk_X17 D I) (Nat.le_of_ble_eq_true rfl) wr_7_79 rfl ?_
                      refine G_iload_n 2 dr_cX17_next_111 rfl ?_
                      have hm17123 : (γ 9 5) ∈ P15684 := RS_m hT ht17067 (by decide)
                      obtain ⟨f17125, he17124⟩ := show rk_17 I (F15685 (γ 9 5)) from RS_o hT ht17067
                      refine Gp_iald 0 hm17123 he17124 dr_cX17_next_112 rfl (gB_in bg17035'' (by decide) (by decide)) (G_nam fun z17126 hz17126 => ?_)
                      have bz17126 : gB z17126 (-2147483648) 2147483647 := gB_any z17126
                      refine G_i2l dr_cX17_next_113 (G_namL fun u17127 hu17127 => ?_)
                      refine G_aload_n 4 dr_cX17_next_114 rfl ?_
                      refine Gp_get 16 hm17041 he17042 dr_cX17_next_115 (gk_X17 D I) (Nat.le_of_ble_eq_true rfl) wr_7_90 rfl ?_
                      refine G_iload_n 3 dr_cX17_next_118 rfl ?_
                      have hm17128 : (γ 9 16) ∈ P15684 := RS_m hT ht17072 (by decide)
                      obtain ⟨f17130, he17129⟩ := show rk_19 I (F15685 (γ 9 16)) from RS_o hT ht17072
                      refine Gp_iald 0 hm17128 he17129 dr_cX17_next_119 rfl (gB_in bg17036'' (by decide) (by decide)) (G_nam fun z17131 hz17131 => ?_)
                      have bz17131 : gB z17131 (-2147483648) 2147483647 := gB_any z17131
                      refine G_i2l dr_cX17_next_120 (G_namL fun u17132 hu17132 => ?_)
                      refine G_lmul dr_cX17_next_121 (G_namL fun u17133 hu17133 => ?_)
                      refine G_aload_n 4 dr_cX17_next_122 rfl ?_
                      refine Gp_get 5 hm17041 he17042 dr_cX17_next_123 (gk_X17 D I) (Nat.le_of_ble_eq_true rfl) wr_7_79 rfl ?_
                      refine G_iload_n 3 dr_cX17_next_126 rfl ?_
                      refine Gp_iald 0 hm17123 he17124 dr_cX17_next_127 rfl (gB_in bg17036'' (by decide) (by decide)) (G_nam fun z17134 hz17134 => ?_)
                      have bz17134 : gB z17134 (-2147483648) 2147483647 := gB_any z17134
                      refine G_i2l dr_cX17_next_128 (G_namL fun u17135 hu17135 => ?_)
                      refine G_aload_n 4 dr_cX17_next_129 rfl ?_
                      refine Gp_get 16 hm17041 he17042 dr_cX17_next_130 (gk_X17 D I) (Nat.le_of_ble_eq_true rfl) wr_7_90 rfl ?_
                      refine G_iload_n 2 dr_cX17_next_133 rfl ?_
                      refine Gp_iald 0 hm17128 he17129 dr_cX17_next_134 rfl (gB_in bg17035'' (by decide) (by decide)) (G_nam fun z17136 hz17136 => ?_)
                      have bz17136 : gB z17136 (-2147483648) 2147483647 := gB_any z17136
                      refine G_i2l dr_cX17_next_135 (G_namL fun u17137 hu17137 => ?_)
                      refine G_lmul dr_cX17_next_136 (G_namL fun u17138 hu17138 => ?_)
                      refine G_lcmp dr_cX17_next_137 (G_nam fun z17139 hz17139 => ?_)
                      have bz17139 : gB z17139 (-1) 1 := gB_cmp hz17139
                      refine G_if_ge 145 dr_cX17_next_138 (by decide +kernel) (fun hc17140 => ?_) (fun hc17140 => ?_)
                      · have r17141 : 0 ≤ z17139.toInt := gj_leL hc17140 (show Int32.toInt 0 = 0 by decide)
                        have bz17139' : gB z17139 0 1 := ⟨by omega, by omega⟩
                        refine G_iconst 0 dr_cX17_next_145 (by decide +kernel) ?_
                        refine G_istore (L' := [(6, .int 0), (5, .int 1), (4, .int 0), (3, .int g17035), (2, .int g17036), (0, .ref q15686), (1, .int p15687)]) dr_cX17_next_146 (Nat.le_of_ble_eq_true rfl) rfl ?_
                        refine G_iload 2 dr_cX17_next_148 rfl ?_
                        refine G_if_ne 158 dr_cX17_next_150 (by decide +kernel) (fun hc => absurd hc (by decide)) (fun _ => ?_)
                        refine G_iload 1 dr_cX17_next_153 rfl ?_
                        refine G_if_ne 163 dr_cX17_next_155 (by decide +kernel) (fun _ => ?_) (fun hc => absurd hc (by decide))
                        refine G_iload_n 3 dr_cX17_next_163 rfl ?_
                        refine G_istore_n (L' := [(2, .int g17035), (6, .int 0), (5, .int 1), (4, .int 0), (3, .int g17035), (0, .ref q15686), (1, .int p15687)]) dr_cX17_next_164 (Nat.le_of_ble_eq_true rfl) rfl ?_
                        obtain ⟨z17142, hz17142⟩ : ∃ z : Int32, z = g17035 + Int32.ofInt 1 := ⟨_, rfl⟩
                        have ez17142 : z17142.toInt = g17035.toInt + 1 := gI_inc hz17142 (by decide) bg17035'' (by decide) (by decide)
                        have bz17142 : gB z17142 1 100 := ⟨by omega, by omega⟩
                        refine G_iinc (L' := [(3, .int z17142), (2, .int g17035), (6, .int 0), (5, .int 1), (4, .int 0), (0, .ref q15686), (1, .int p15687)]) z17142 4 dr_cX17_next_165 rfl hz17142.symm (Nat.le_of_ble_eq_true rfl) rfl ?_
                        refine G_goto 40 dr_cX17_next_168 (by decide +kernel) ?_
                        refine G_lv (L' := [(3, .int z17142), (2, .int g17035), (0, .ref q15686), (1, .int p15687)]) [0, 1, 5, 6] rfl ?_
                        exact ih40_17036 z17142 g17035 (gB_w bz17142 (by decide) (by decide)) (gB_w bg17035'' (by decide) (by decide)) (by omega)
                      · have r17143 : z17139.toInt < 0 := gj_nleL hc17140 (show Int32.toInt 0 = 0 by decide)
                        have bz17139' : gB z17139 (-1) (-1) := ⟨by omega, by omega⟩
                        have lhc17140 := gC_cmpS hz17139 (by omega)
                        refine G_iconst 1 dr_cX17_next_141 (by decide +kernel) ?_
                        refine G_goto 146 dr_cX17_next_142 (by decide +kernel) ?_
                        refine G_istore (L' := [(6, .int 1), (5, .int 1), (4, .int 0), (3, .int g17035), (2, .int g17036), (0, .ref q15686), (1, .int p15687)]) dr_cX17_next_146 (Nat.le_of_ble_eq_true rfl) rfl ?_
                        refine G_iload 2 dr_cX17_next_148 rfl ?_
                        refine G_if_ne 158 dr_cX17_next_150 (by decide +kernel) (fun hc => absurd hc (by decide)) (fun _ => ?_)
                        refine G_iload 1 dr_cX17_next_153 rfl ?_
                        refine G_if_ne 163 dr_cX17_next_155 (by decide +kernel) (fun _ => ?_) (fun hc => absurd hc (by decide))
                        refine G_iload_n 3 dr_cX17_next_163 rfl ?_
                        refine G_istore_n (L' := [(2, .int g17035), (6, .int 1), (5, .int 1), (4, .int 0), (3, .int g17035), (0, .ref q15686), (1, .int p15687)]) dr_cX17_next_164 (Nat.le_of_ble_eq_true rfl) rfl ?_
                        obtain ⟨z17144, hz17144⟩ : ∃ z : Int32, z = g17035 + Int32.ofInt 1 := ⟨_, rfl⟩
                        have ez17144 : z17144.toInt = g17035.toInt + 1 := gI_inc hz17144 (by decide) bg17035'' (by decide) (by decide)
                        have bz17144 : gB z17144 1 100 := ⟨by omega, by omega⟩
                        refine G_iinc (L' := [(3, .int z17144), (2, .int g17035), (6, .int 1), (5, .int 1), (4, .int 0), (0, .ref q15686), (1, .int p15687)]) z17144 4 dr_cX17_next_165 rfl hz17144.symm (Nat.le_of_ble_eq_true rfl) rfl ?_
                        refine G_goto 40 dr_cX17_next_168 (by decide +kernel) ?_
                        refine G_lv (L' := [(3, .int z17144), (2, .int g17035), (0, .ref q15686), (1, .int p15687)]) [0, 1, 5, 6] rfl ?_
                        exact ih40_17036 z17144 g17035 (gB_w bz17144 (by decide) (by decide)) (gB_w bg17035'' (by decide) (by decide)) (by omega)
                  · have r17145 : 100 ≤ g17035.toInt := gj_nlt hc17096 (show Int32.toInt 100 = 100 by decide)
                    have bg17035'' : gB g17035 100 1999 := ⟨by omega, by omega⟩
                    refine G_iconst 1 dr_cX17_next_74 (by decide +kernel) ?_
                    refine G_goto 79 dr_cX17_next_75 (by decide +kernel) ?_
                    refine G_istore (L' := [(4, .int 1), (3, .int g17035), (2, .int g17036), (0, .ref q15686), (1, .int p15687)]) dr_cX17_next_79 (Nat.le_of_ble_eq_true rfl) rfl ?_
                    refine G_iload_n 2 dr_cX17_next_81 rfl ?_
                    refine G_bipush 100 dr_cX17_next_82 (by decide +kernel) ?_
                    refine G_icmp_lt 91 dr_cX17_next_84 (by decide +kernel) (fun hc17146 => ?_) (fun hc17146 => ?_)
                    · have r17147 : g17036.toInt < 100 := gj_lt hc17146 (show Int32.toInt 100 = 100 by decide)
                      have bg17036'' : gB g17036 0 99 := ⟨by omega, by omega⟩
                      refine G_iconst 0 dr_cX17_next_91 (by decide +kernel) ?_
                      refine G_istore (L' := [(5, .int 0), (4, .int 1), (3, .int g17035), (2, .int g17036), (0, .ref q15686), (1, .int p15687)]) dr_cX17_next_92 (Nat.le_of_ble_eq_true rfl) rfl ?_
                      refine G_iload 1 dr_cX17_next_94 rfl ?_
                      refine G_if_eq 107 dr_cX17_next_96 (by decide +kernel) (fun hc => absurd hc (by decide)) (fun _ => ?_)
                      refine G_iload 0 dr_cX17_next_99 rfl ?_
                      refine G_if_ne 107 dr_cX17_next_101 (by decide +kernel) (fun hc => absurd hc (by decide)) (fun _ => ?_)
                      refine G_goto 165 dr_cX17_next_104 (by decide +kernel) ?_
                      obtain ⟨z17148, hz17148⟩ : ∃ z : Int32, z = g17035 + Int32.ofInt 1 := ⟨_, rfl⟩
                      have ez17148 : z17148.toInt = g17035.toInt + 1 := gI_inc hz17148 (by decide) bg17035'' (by decide) (by decide)
                      have bz17148 : gB z17148 101 2000 := ⟨by omega, by omega⟩
                      refine G_iinc (L' := [(3, .int z17148), (5, .int 0), (4, .int 1), (2, .int g17036), (0, .ref q15686), (1, .int p15687)]) z17148 2 dr_cX17_next_165 rfl hz17148.symm (Nat.le_of_ble_eq_true rfl) rfl ?_
                      refine G_goto 40 dr_cX17_next_168 (by decide +kernel) ?_
                      refine G_lv (L' := [(3, .int z17148), (2, .int g17036), (0, .ref q15686), (1, .int p15687)]) [0, 3, 4, 5] rfl ?_
                      exact ih40_17036 z17148 g17036 (gB_w bz17148 (by decide) (by decide)) (gB_w bg17036'' (by decide) (by decide)) (by omega)
                    · have r17149 : 100 ≤ g17036.toInt := gj_nlt hc17146 (show Int32.toInt 100 = 100 by decide)
                      have bg17036'' : gB g17036 100 1999 := ⟨by omega, by omega⟩
                      refine G_iconst 1 dr_cX17_next_87 (by decide +kernel) ?_
                      refine G_goto 92 dr_cX17_next_88 (by decide +kernel) ?_
                      refine G_istore (L' := [(5, .int 1), (4, .int 1), (3, .int g17035), (2, .int g17036), (0, .ref q15686), (1, .int p15687)]) dr_cX17_next_92 (Nat.le_of_ble_eq_true rfl) rfl ?_
                      refine G_iload 1 dr_cX17_next_94 rfl ?_
                      refine G_if_eq 107 dr_cX17_next_96 (by decide +kernel) (fun hc => absurd hc (by decide)) (fun _ => ?_)
                      refine G_iload 0 dr_cX17_next_99 rfl ?_
                      refine G_if_ne 107 dr_cX17_next_101 (by decide +kernel) (fun _ => ?_) (fun hc => absurd hc (by decide))
                      refine G_aload_n 4 dr_cX17_next_107 rfl ?_
                      refine Gp_get 5 hm17041 he17042 dr_cX17_next_108 (gk_X17 D I) (Nat.le_of_ble_eq_true rfl) wr_7_79 rfl ?_
                      refine G_iload_n 2 dr_cX17_next_111 rfl ?_
                      have hm17150 : (γ 9 5) ∈ P15684 := RS_m hT ht17067 (by decide)
                      obtain ⟨f17152, he17151⟩ := show rk_17 I (F15685 (γ 9 5)) from RS_o hT ht17067
                      refine Gp_iald 0 hm17150 he17151 dr_cX17_next_112 rfl (gB_in bg17035'' (by decide) (by decide)) (G_nam fun z17153 hz17153 => ?_)
                      have bz17153 : gB z17153 (-2147483648) 2147483647 := gB_any z17153
                      refine G_i2l dr_cX17_next_113 (G_namL fun u17154 hu17154 => ?_)
                      refine G_aload_n 4 dr_cX17_next_114 rfl ?_
                      refine Gp_get 16 hm17041 he17042 dr_cX17_next_115 (gk_X17 D I) (Nat.le_of_ble_eq_true rfl) wr_7_90 rfl ?_
                      refine G_iload_n 3 dr_cX17_next_118 rfl ?_
                      have hm17155 : (γ 9 16) ∈ P15684 := RS_m hT ht17072 (by decide)
                      obtain ⟨f17157, he17156⟩ := show rk_19 I (F15685 (γ 9 16)) from RS_o hT ht17072
                      refine Gp_iald 0 hm17155 he17156 dr_cX17_next_119 rfl (gB_in bg17036'' (by decide) (by decide)) (G_nam fun z17158 hz17158 => ?_)
                      have bz17158 : gB z17158 (-2147483648) 2147483647 := gB_any z17158
                      refine G_i2l dr_cX17_next_120 (G_namL fun u17159 hu17159 => ?_)
                      refine G_lmul dr_cX17_next_121 (G_namL fun u17160 hu17160 => ?_)
                      refine G_aload_n 4 dr_cX17_next_122 rfl ?_
                      refine Gp_get 5 hm17041 he17042 dr_cX17_next_123 (gk_X17 D I) (Nat.le_of_ble_eq_true rfl) wr_7_79 rfl ?_
                      refine G_iload_n 3 dr_cX17_next_126 rfl ?_
                      refine Gp_iald 0 hm17150 he17151 dr_cX17_next_127 rfl (gB_in bg17036'' (by decide) (by decide)) (G_nam fun z17161 hz17161 => ?_)
                      have bz17161 : gB z17161 (-2147483648) 2147483647 := gB_any z17161
                      refine G_i2l dr_cX17_next_128 (G_namL fun u17162 hu17162 => ?_)
                      refine G_aload_n 4 dr_cX17_next_129 rfl ?_
                      refine Gp_get 16 hm17041 he17042 dr_cX17_next_130 (gk_X17 D I) (Nat.le_of_ble_eq_true rfl) wr_7_90 rfl ?_
                      refine G_iload_n 2 dr_cX17_next_133 rfl ?_
                      refine Gp_iald 0 hm17155 he17156 dr_cX17_next_134 rfl (gB_in bg17035'' (by decide) (by decide)) (G_nam fun z17163 hz17163 => ?_)
                      have bz17163 : gB z17163 (-2147483648) 2147483647 := gB_any z17163
                      refine G_i2l dr_cX17_next_135 (G_namL fun u17164 hu17164 => ?_)
                      refine G_lmul dr_cX17_next_136 (G_namL fun u17165 hu17165 => ?_)
                      refine G_lcmp dr_cX17_next_137 (G_nam fun z17166 hz17166 => ?_)
                      have bz17166 : gB z17166 (-1) 1 := gB_cmp hz17166
                      refine G_if_ge 145 dr_cX17_next_138 (by decide +kernel) (fun hc17167 => ?_) (fun hc17167 => ?_)
                      · have r17168 : 0 ≤ z17166.toInt := gj_leL hc17167 (show Int32.toInt 0 = 0 by decide)
                        have bz17166' : gB z17166 0 1 := ⟨by omega, by omega⟩
                        refine G_iconst 0 dr_cX17_next_145 (by decide +kernel) ?_
                        refine G_istore (L' := [(6, .int 0), (5, .int 1), (4, .int 1), (3, .int g17035), (2, .int g17036), (0, .ref q15686), (1, .int p15687)]) dr_cX17_next_146 (Nat.le_of_ble_eq_true rfl) rfl ?_
                        refine G_iload 2 dr_cX17_next_148 rfl ?_
                        refine G_if_ne 158 dr_cX17_next_150 (by decide +kernel) (fun _ => ?_) (fun hc => absurd hc (by decide))
                        refine G_iload 0 dr_cX17_next_158 rfl ?_
                        refine G_if_eq 165 dr_cX17_next_160 (by decide +kernel) (fun _ => ?_) (fun hc => absurd hc (by decide))
                        obtain ⟨z17169, hz17169⟩ : ∃ z : Int32, z = g17035 + Int32.ofInt 1 := ⟨_, rfl⟩
                        have ez17169 : z17169.toInt = g17035.toInt + 1 := gI_inc hz17169 (by decide) bg17035'' (by decide) (by decide)
                        have bz17169 : gB z17169 101 2000 := ⟨by omega, by omega⟩
                        refine G_iinc (L' := [(3, .int z17169), (6, .int 0), (5, .int 1), (4, .int 1), (2, .int g17036), (0, .ref q15686), (1, .int p15687)]) z17169 3 dr_cX17_next_165 rfl hz17169.symm (Nat.le_of_ble_eq_true rfl) rfl ?_
                        refine G_goto 40 dr_cX17_next_168 (by decide +kernel) ?_
                        refine G_lv (L' := [(3, .int z17169), (2, .int g17036), (0, .ref q15686), (1, .int p15687)]) [0, 4, 5, 6] rfl ?_
                        exact ih40_17036 z17169 g17036 (gB_w bz17169 (by decide) (by decide)) (gB_w bg17036'' (by decide) (by decide)) (by omega)
                      · have r17170 : z17166.toInt < 0 := gj_nleL hc17167 (show Int32.toInt 0 = 0 by decide)
                        have bz17166' : gB z17166 (-1) (-1) := ⟨by omega, by omega⟩
                        have lhc17167 := gC_cmpS hz17166 (by omega)
                        refine G_iconst 1 dr_cX17_next_141 (by decide +kernel) ?_
                        refine G_goto 146 dr_cX17_next_142 (by decide +kernel) ?_
                        refine G_istore (L' := [(6, .int 1), (5, .int 1), (4, .int 1), (3, .int g17035), (2, .int g17036), (0, .ref q15686), (1, .int p15687)]) dr_cX17_next_146 (Nat.le_of_ble_eq_true rfl) rfl ?_
                        refine G_iload 2 dr_cX17_next_148 rfl ?_
                        refine G_if_ne 158 dr_cX17_next_150 (by decide +kernel) (fun _ => ?_) (fun hc => absurd hc (by decide))
                        refine G_iload 0 dr_cX17_next_158 rfl ?_
                        refine G_if_eq 165 dr_cX17_next_160 (by decide +kernel) (fun hc => absurd hc (by decide)) (fun _ => ?_)
                        refine G_iload_n 3 dr_cX17_next_163 rfl ?_
                        refine G_istore_n (L' := [(2, .int g17035), (6, .int 1), (5, .int 1), (4, .int 1), (3, .int g17035), (0, .ref q15686), (1, .int p15687)]) dr_cX17_next_164 (Nat.le_of_ble_eq_true rfl) rfl ?_
                        obtain ⟨z17171, hz17171⟩ : ∃ z : Int32, z = g17035 + Int32.ofInt 1 := ⟨_, rfl⟩
                        have ez17171 : z17171.toInt = g17035.toInt + 1 := gI_inc hz17171 (by decide) bg17035'' (by decide) (by decide)
                        have bz17171 : gB z17171 101 2000 := ⟨by omega, by omega⟩
                        refine G_iinc (L' := [(3, .int z17171), (2, .int g17035), (6, .int 1), (5, .int 1), (4, .int 1), (0, .ref q15686), (1, .int p15687)]) z17171 4 dr_cX17_next_165 rfl hz17171.symm (Nat.le_of_ble_eq_true rfl) rfl ?_
                        refine G_goto 40 dr_cX17_next_168 (by decide +kernel) ?_
                        refine G_lv (L' := [(3, .int z17171), (2, .int g17035), (0, .ref q15686), (1, .int p15687)]) [0, 1, 5, 6] rfl ?_
                        exact ih40_17036 z17171 g17035 (gB_w bz17171 (by decide) (by decide)) (gB_w bg17035'' (by decide) (by decide)) (by omega)
                · have r17172 : g17036.toInt < 0 := gj_nleL hc17094 (show Int32.toInt 0 = 0 by decide)
                  have bg17036' : gB g17036 (-1) (-1) := ⟨by omega, by omega⟩
                  refine G_iload_n 0 dr_cX17_next_63 rfl ?_
                  refine G_istore_n (L' := [(2, .int g17035), (3, .int g17035), (0, .ref q15686), (1, .int p15687)]) dr_cX17_next_64 (Nat.le_of_ble_eq_true rfl) rfl ?_
                  refine G_goto 165 dr_cX17_next_65 (by decide +kernel) ?_
                  obtain ⟨z17173, hz17173⟩ : ∃ z : Int32, z = g17035 + Int32.ofInt 1 := ⟨_, rfl⟩
                  have ez17173 : z17173.toInt = g17035.toInt + 1 := gI_inc hz17173 (by decide) bg17035' (by decide) (by decide)
                  have bz17173 : gB z17173 1 2000 := ⟨by omega, by omega⟩
                  refine G_iinc (L' := [(3, .int z17173), (2, .int g17035), (0, .ref q15686), (1, .int p15687)]) z17173 1 dr_cX17_next_165 rfl hz17173.symm (Nat.le_of_ble_eq_true rfl) rfl ?_
                  refine G_goto 40 dr_cX17_next_168 (by decide +kernel) ?_
                  exact ih40_17036 z17173 g17035 (gB_w bz17173 (by decide) (by decide)) (gB_w bg17035' (by decide) (by decide)) (by omega)
              · have r17174 : z17091.toInt = 0 := gj_eq hc17092 (show Int32.toInt 0 = 0 by decide)
                have bz17091' : gB z17091 0 0 := ⟨by omega, by omega⟩
                refine G_goto 165 dr_cX17_next_56 (by decide +kernel) ?_
                obtain ⟨z17175, hz17175⟩ : ∃ z : Int32, z = g17035 + Int32.ofInt 1 := ⟨_, rfl⟩
                have ez17175 : z17175.toInt = g17035.toInt + 1 := gI_inc hz17175 (by decide) bg17035' (by decide) (by decide)
                have bz17175 : gB z17175 1 2000 := ⟨by omega, by omega⟩
                refine G_iinc (L' := [(3, .int z17175), (2, .int g17036), (0, .ref q15686), (1, .int p15687)]) z17175 0 dr_cX17_next_165 rfl hz17175.symm (Nat.le_of_ble_eq_true rfl) rfl ?_
                refine G_goto 40 dr_cX17_next_168 (by decide +kernel) ?_
                exact ih40_17036 z17175 g17036 (gB_w bz17175 (by decide) (by decide)) bg17036 (by omega)
        exact hlp40_17036 (((2001 : Int) - 0).toNat + 1) 0 (-1) (gB_w (gBl (show Int32.toInt 0 = 0 by decide)) (by decide) (by decide)) (gB_w (gBl (show Int32.toInt (-1) = (-1) by decide)) (by decide) (by decide)) (Nat.lt_succ_self _)
      · have r17176 : g16891.toInt < 2000 := gj_nleL hc16893 (show Int32.toInt 2000 = 2000 by decide)
        have bg16891' : gB g16891 0 1999 := ⟨by omega, by omega⟩
        refine G_aload_n 1 dr_cX17_next_9 rfl ?_
        have hm17177 : q15686 ∈ P15684 := RS_m hT htq15686 (by decide)
        obtain ⟨q17179, q17180, p17181, p17182, p17183, p17184, p17185, p17186, p17187, p17188, p17189, p17190, p17191, p17192, p17193, p17194, p17195, he17178, hB17222, ht17196, ht17197, ht17198, ht17199, ht17200, ht17201, ht17202, ht17203, ht17204, ht17205, ht17206, ht17207, ht17208, ht17209, ht17210, ht17211, ht17212, ht17213, ht17214, ht17215, ht17216, ht17217, ht17218, ht17219, hB17223⟩ := show rk_10 γ (F15685 q15686) from RS_o hT htq15686
        refine Gp_get 18 hm17177 he17178 dr_cX17_next_10 (gk_X17 D I) (Nat.le_of_ble_eq_true rfl) wr_7_92 rfl ?_
        refine G_iload_n 0 dr_cX17_next_13 rfl ?_
        have hm17224 : (γ 9 18) ∈ P15684 := RS_m hT ht17210 (by decide)
        obtain ⟨f17226, he17225, bf17226⟩ := show rk_15 I (F15685 (γ 9 18)) from RS_o hT ht17210
        refine Gp_zald 3 hm17224 he17225 dr_cX17_next_14 rfl (gB_in bg16891' (by decide) (by decide)) (G_nam fun z17227 hz17227 => ?_)
        have bz17227 : gB z17227 0 1 := by rw [hz17227]; exact bf17226 _
        refine G_if_eq 30 dr_cX17_next_15 (by decide +kernel) (fun hc17228 => ?_) (fun hc17228 => ?_)
        · have r17229 : z17227.toInt = 0 := gj_eq hc17228 (show Int32.toInt 0 = 0 by decide)
          have bz17227' : gB z17227 0 0 := ⟨by omega, by omega⟩
          obtain ⟨z17230, hz17230⟩ : ∃ z : Int32, z = g16891 + Int32.ofInt 1 := ⟨_, rfl⟩
          have ez17230 : z17230.toInt = g16891.toInt + 1 := gI_inc hz17230 (by decide) bg16891' (by decide) (by decide)
          have bz17230 : gB z17230 1 2000 := ⟨by omega, by omega⟩
          refine G_iinc (L' := [(2, .int z17230), (0, .ref q15686), (1, .int p15687)]) z17230 0 dr_cX17_next_30 rfl hz17230.symm (Nat.le_of_ble_eq_true rfl) rfl ?_
          refine G_goto 2 dr_cX17_next_33 (by decide +kernel) ?_
          exact ih2_16891 z17230 (gB_w bz17230 (by decide) (by decide)) (by omega)
        · have r17231 : z17227.toInt ≠ 0 := gj_neq hc17228 (show Int32.toInt 0 = 0 by decide)
          have bz17227' : gB z17227 1 1 := ⟨by omega, by omega⟩
          refine G_aload_n 1 dr_cX17_next_18 rfl ?_
          refine Gp_get 16 hm17177 he17178 dr_cX17_next_19 (gk_X17 D I) (Nat.le_of_ble_eq_true rfl) wr_7_90 rfl ?_
          refine G_iload_n 0 dr_cX17_next_22 rfl ?_
          have hm17232 : (γ 9 16) ∈ P15684 := RS_m hT ht17208 (by decide)
          obtain ⟨f17234, he17233⟩ := show rk_19 I (F15685 (γ 9 16)) from RS_o hT ht17208
          refine Gp_iald 0 hm17232 he17233 dr_cX17_next_23 rfl (gB_in bg16891' (by decide) (by decide)) (G_nam fun z17235 hz17235 => ?_)
          have bz17235 : gB z17235 (-2147483648) 2147483647 := gB_any z17235
          refine G_iload_n 2 dr_cX17_next_24 rfl ?_
          refine G_icmp_ge 30 dr_cX17_next_25 (by decide +kernel) (fun hc17236 => ?_) (fun hc17236 => ?_)
          · have r17237 : p15687.toInt ≤ z17235.toInt := gC_le hc17236
            obtain ⟨z17238, hz17238⟩ : ∃ z : Int32, z = g16891 + Int32.ofInt 1 := ⟨_, rfl⟩
            have ez17238 : z17238.toInt = g16891.toInt + 1 := gI_inc hz17238 (by decide) bg16891' (by decide) (by decide)
            have bz17238 : gB z17238 1 2000 := ⟨by omega, by omega⟩
            refine G_iinc (L' := [(2, .int z17238), (0, .ref q15686), (1, .int p15687)]) z17238 0 dr_cX17_next_30 rfl hz17238.symm (Nat.le_of_ble_eq_true rfl) rfl ?_
            refine G_goto 2 dr_cX17_next_33 (by decide +kernel) ?_
            exact ih2_16891 z17238 (gB_w bz17238 (by decide) (by decide)) (by omega)
          · have r17239 : z17235.toInt < p15687.toInt := gC_nle hc17236
            have bz17235' : gB z17235 (-2147483648) 2147483646 := ⟨by omega, by omega⟩
            have bp15687' : gB p15687 (-2147483647) 2147483647 := ⟨by omega, by omega⟩
            refine G_iload_n 0 dr_cX17_next_28 rfl ?_
            exact G_iretA dr_cX17_next_29 rfl (Nat.le_of_ble_eq_true rfl) (Nat.le_of_ble_eq_true rfl) ⟨g16891, rfl, rfl, (Nat.le_of_ble_eq_true rfl), (Nat.le_of_ble_eq_true rfl), (gB_w bg16891' (by decide) (by decide))⟩
  exact hlp2_16891 (((2001 : Int) - 0).toNat + 1) 0 (gB_w (gBl (show Int32.toInt 0 = 0 by decide)) (by decide) (by decide)) (Nat.lt_succ_self _)
abbrev ky_17247_SpillForgeModel_findDepth : gKey := (cX17_findDepth, 13, "SpillForgeModel", none, [], "findDepth", fun _ _ => True)
def pt_17247_SpillForgeModel_findDepth (D : va_G) (I : FieldType → ClassId) (γ el : Nat → Nat → Nat) (P17242 : List Nat) (F17243 : Nat → va_E) (q17244 : Nat) (q17245 : Nat) : Option Value → va_W → Nat → Nat → Prop := fun r w dc ds => ∃ (F153172 : Nat → va_E), r = none ∧ w = va_pl P17242 F153172 ∧ RS D I P17242 F153172 γ el ∧ rStr γ F17243 F153172 ∧ dc ≤ 0 ∧ ds ≤ 0
set_option maxRecDepth 100000 in
set_option maxHeartbeats 4000000 in
theorem ct_17247_SpillForgeModel_findDepth (l : Launch) (hl0 : l.stackTraces = false) (D : va_G) (I : FieldType → ClassId) (γ el : Nat → Nat → Nat) (P17242 : List Nat) (F17243 : Nat → va_E) (q17244 : Nat) (q17245 : Nat) (hT : RS D I P17242 F17243 γ el) (htq17244 : rKd γ q17244 10) (htq17245 : rKd γ q17245 9) (x17246 : 0 < γ 6 (γ 1 q17245)) : CtA (gV D I) l yX17_findDepth cX17_findDepth 13 none 5 112 0 0 [.ref q17244, .ref q17245] (va_pl P17242 F17243) (pt_17247_SpillForgeModel_findDepth D I γ el P17242 F17243 q17244 q17245) gNA := by
  refine CtA_of hl0 (by decide) (Nat.le_of_ble_eq_true rfl) ?_
  refine G_iconst 0 dr_cX17_findDepth_0 (by decide +kernel) ?_
  refine G_istore_n (L' := [(2, .int 0), (0, .ref q17244), (1, .ref q17245)]) dr_cX17_findDepth_1 (Nat.le_of_ble_eq_true rfl) rfl ?_
  have hlp2_147005 : ∀ (n2_147005 : Nat) (F147003 : Nat → va_E) (g147002 : Int32), gB g147002 0 1000000 → RS D I P17242 F147003 γ el → rStr γ F17243 F147003 → ((1000001 : Int) - g147002.toInt).toNat < n2_147005 → G (gV D I) l (gRm 5 112 0 0) (gMA (gV D I) (pt_17247_SpillForgeModel_findDepth D I γ el P17242 F17243 q17244 q17245) gNA 0 0) ky_17247_SpillForgeModel_findDepth 2 [(2, .int g147002), (0, .ref q17244), (1, .ref q17245)] [] (va_pl P17242 F147003) 0 0 := by
    intro n2_147005
    induction n2_147005 with
    | zero => intro F147003 g147002 bg147002 hT147004 hs147005 hm2_147005; exact absurd hm2_147005 (Nat.not_lt_zero _)
    | succ n2_147005 ih2_147005 =>
      intro F147003 g147002 bg147002 hT147004 hs147005 hm2_147005
      have hs147007 : rStr γ F17243 F147003 := fun b h0 hb => (hs147005 b h0 hb).trans ((rStr_rf (γ := γ) (F := F17243)) b h0 hb).symm
      have hs147008 : rStr γ F17243 F147003 := rStr_tr (rStr_rf (γ := γ) (F := F17243)) hs147007
      refine G_iload_n 0 dr_cX17_findDepth_2 rfl ?_
      refine G_aload_n 2 dr_cX17_findDepth_3 rfl ?_
      have hm147009 : q17245 ∈ P17242 := RS_m hT147004 htq17245 (by decide)
      obtain ⟨q147011, q147012, p147013, p147014, he147010, ht147015, ht147016, ht147017, ht147018, r147019, r147020, r147021, r147022, r147023, r147024, r147025, r147026, r147027, r147028⟩ := show rk_9 γ el q17245 (F147003 q17245) from RS_o hT147004 htq17245
      have bp147013 : gB p147013 0 1000000 := ⟨by omega, by omega⟩
      have bp147014 : gB p147014 0 1000000 := ⟨by omega, by omega⟩
      refine Gw_callV (As := []) (gV_ok D I) (cp_10426_Code_size l hl0 D I P17242 F147003 q17245 q147011 q147012 p147013 p147014 hm147009 he147010) dr_cX17_findDepth_4 ⟨wr_10_160, wr_1_15, wr_9_131, by decide, rfl, (Nat.le_of_ble_eq_true rfl), (Nat.le_of_ble_eq_true rfl)⟩ wr_9_129 wr_9_130 hm147009 he147010 rfl (show 0 + 0 ≤ 0 by first | omega | decide) (show 0 + 0 ≤ 0 by first | omega | decide) (Nat.le_of_ble_eq_true rfl) (fun r147032 w147033 dc147029 ds147030 hp147031 => ?_) (fun _ _ _ _ _ z => z.elim)
      obtain ⟨rfl, rfl, hdc, hds⟩ := hp147031
      change G _ _ _ _ _ _ _ (.int p147014 :: _) _ _ _
      refine G_widen (cs' := 0) (sl' := 0) (by omega) (by omega) ?_
      refine G_icmp_ge 23 dr_cX17_findDepth_7 (by decide +kernel) (fun hc147034 => ?_) (fun hc147034 => ?_)
      · have r147035 : p147014.toInt ≤ g147002.toInt := gC_le hc147034
        refine G_aload_n 2 dr_cX17_findDepth_23 rfl ?_
        refine G_iconst (-1) dr_cX17_findDepth_24 (by decide +kernel) ?_
        refine Gw_callS (As := [.ref q17245, .int (-1)]) (gV_ok D I) (ct_10396_SpillForgeModel_reached l hl0 D I γ el P17242 F147003 q17245 (-1) hT147004 htq17245) dr_cX17_findDepth_25 ⟨wr_11_41, wr_1_14, wr_11_43, by decide, rfl, (Nat.le_of_ble_eq_true rfl), (Nat.le_of_ble_eq_true rfl)⟩ wr_11_42 (show 0 + 0 ≤ 0 by first | omega | decide) (show 0 + 0 ≤ 0 by first | omega | decide) (Nat.le_of_ble_eq_true rfl) (fun r147039 w147040 dc147036 ds147037 hp147038 => ?_) (fun _ _ _ _ _ z => z.elim)
        obtain ⟨ol147041, rfl, rfl, hdc, hds⟩ := hp147038
        change G _ _ _ _ _ _ _ (.long ol147041 :: _) _ _ _
        refine G_widen (cs' := 0) (sl' := 0) (by omega) (by omega) ?_
        refine G_lstore_n (L' := [(2, .long ol147041), (0, .ref q17244), (1, .ref q17245)]) dr_cX17_findDepth_28 (Nat.le_of_ble_eq_true rfl) rfl ?_
        refine G_iconst 0 dr_cX17_findDepth_29 (by decide +kernel) ?_
        refine G_istore (L' := [(4, .int 0), (2, .long ol147041), (0, .ref q17244), (1, .ref q17245)]) dr_cX17_findDepth_30 (Nat.le_of_ble_eq_true rfl) rfl ?_
        have hlp32_150079 : ∀ (n32_150079 : Nat) (F150077 : Nat → va_E) (g150076 : Int32), gB g150076 0 1000000 → RS D I P17242 F150077 γ el → rStr γ F17243 F150077 → ((1000001 : Int) - g150076.toInt).toNat < n32_150079 → G (gV D I) l (gRm 5 112 0 0) (gMA (gV D I) (pt_17247_SpillForgeModel_findDepth D I γ el P17242 F17243 q17244 q17245) gNA 0 0) ky_17247_SpillForgeModel_findDepth 32 [(4, .int g150076), (2, .long ol147041), (0, .ref q17244), (1, .ref q17245)] [] (va_pl P17242 F150077) 0 0 := by
          intro n32_150079
          induction n32_150079 with
          | zero => intro F150077 g150076 bg150076 hT150078 hs150079 hm32_150079; exact absurd hm32_150079 (Nat.not_lt_zero _)
          | succ n32_150079 ih32_150079 =>
            intro F150077 g150076 bg150076 hT150078 hs150079 hm32_150079
            have hs150081 : rStr γ F147003 F150077 := fun b h0 hb => (hs150079 b h0 hb).trans (hs147005 b h0 hb).symm
            have he150082 : F150077 q17245 = .inr (18, [.ref q147011, .ref q147012, .int p147013, .int p147014]) := (hs150081 q17245 (rT0 htq17245 (by decide)) (rT1 htq17245 (by decide))).trans he147010
            have hs150083 : rStr γ F17243 F150077 := rStr_tr hs147005 hs150081
            refine G_iload 0 dr_cX17_findDepth_32 rfl ?_
            refine G_aload_n 3 dr_cX17_findDepth_34 rfl ?_
            refine Gw_callV (As := []) (gV_ok D I) (cp_10426_Code_size l hl0 D I P17242 F150077 q17245 q147011 q147012 p147013 p147014 hm147009 he150082) dr_cX17_findDepth_35 ⟨wr_10_160, wr_1_15, wr_9_131, by decide, rfl, (Nat.le_of_ble_eq_true rfl), (Nat.le_of_ble_eq_true rfl)⟩ wr_9_129 wr_9_130 hm147009 he150082 rfl (show 0 + 0 ≤ 0 by first | omega | decide) (show 0 + 0 ≤ 0 by first | omega | decide) (Nat.le_of_ble_eq_true rfl) (fun r150087 w150088 dc150084 ds150085 hp150086 => ?_) (fun _ _ _ _ _ z => z.elim)
            obtain ⟨rfl, rfl, hdc, hds⟩ := hp150086
            change G _ _ _ _ _ _ _ (.int p147014 :: _) _ _ _
            refine G_widen (cs' := 0) (sl' := 0) (by omega) (by omega) ?_
            refine G_icmp_ge 339 dr_cX17_findDepth_38 (by decide +kernel) (fun hc150089 => ?_) (fun hc150089 => ?_)
            · have r150090 : p147014.toInt ≤ g150076.toInt := gC_le hc150089
              refine G_iconst 0 dr_cX17_findDepth_339 (by decide +kernel) ?_
              refine G_istore (L' := [(4, .int 0), (2, .long ol147041), (0, .ref q17244), (1, .ref q17245)]) dr_cX17_findDepth_340 (Nat.le_of_ble_eq_true rfl) rfl ?_
              have hlp342_150171 : ∀ (n342_150171 : Nat) (F150169 : Nat → va_E) (g150168 : Int32), gB g150168 0 1000000 → RS D I P17242 F150169 γ el → rStr γ F17243 F150169 → ((1000001 : Int) - g150168.toInt).toNat < n342_150171 → G (gV D I) l (gRm 5 112 0 0) (gMA (gV D I) (pt_17247_SpillForgeModel_findDepth D I γ el P17242 F17243 q17244 q17245) gNA 0 0) ky_17247_SpillForgeModel_findDepth 342 [(4, .int g150168), (2, .long ol147041), (0, .ref q17244), (1, .ref q17245)] [] (va_pl P17242 F150169) 0 0 := by
                intro n342_150171
                induction n342_150171 with
                | zero => intro F150169 g150168 bg150168 hT150170 hs150171 hm342_150171; exact absurd hm342_150171 (Nat.not_lt_zero _)
                | succ n342_150171 ih342_150171 =>
                  intro F150169 g150168 bg150168 hT150170 hs150171 hm342_150171
                  have hs150173 : rStr γ F150077 F150169 := fun b h0 hb => (hs150171 b h0 hb).trans (hs150079 b h0 hb).symm
                  have he150174 : F150169 q17245 = .inr (18, [.ref q147011, .ref q147012, .int p147013, .int p147014]) := (hs150173 q17245 (rT0 htq17245 (by decide)) (rT1 htq17245 (by decide))).trans he150082
                  have hs150175 : rStr γ F17243 F150169 := rStr_tr hs150079 hs150173
                  refine G_iload 0 dr_cX17_findDepth_342 rfl ?_
                  refine G_aload_n 3 dr_cX17_findDepth_344 rfl ?_
                  refine Gw_callV (As := []) (gV_ok D I) (cp_10426_Code_size l hl0 D I P17242 F150169 q17245 q147011 q147012 p147013 p147014 hm147009 he150174) dr_cX17_findDepth_345 ⟨wr_10_160, wr_1_15, wr_9_131, by decide, rfl, (Nat.le_of_ble_eq_true rfl), (Nat.le_of_ble_eq_true rfl)⟩ wr_9_129 wr_9_130 hm147009 he150174 rfl (show 0 + 0 ≤ 0 by first | omega | decide) (show 0 + 0 ≤ 0 by first | omega | decide) (Nat.le_of_ble_eq_true rfl) (fun r150179 w150180 dc150176 ds150177 hp150178 => ?_) (fun _ _ _ _ _ z => z.elim)
                  obtain ⟨rfl, rfl, hdc, hds⟩ := hp150178
                  change G _ _ _ _ _ _ _ (.int p147014 :: _) _ _ _
                  refine G_widen (cs' := 0) (sl' := 0) (by omega) (by omega) ?_
                  refine G_icmp_ge 375 dr_cX17_findDepth_348 (by decide +kernel) (fun hc150181 => ?_) (fun hc150181 => ?_)
                  · have r150182 : p147014.toInt ≤ g150168.toInt := gC_le hc150181
                    exact G_vretA dr_cX17_findDepth_375 rfl (Nat.le_of_ble_eq_true rfl) (Nat.le_of_ble_eq_true rfl) ⟨F150169, rfl, rfl, hT150170, hs150171, (Nat.le_of_ble_eq_true rfl), (Nat.le_of_ble_eq_true rfl)⟩
                  · have r150183 : g150168.toInt < p147014.toInt := gC_nle hc150181
                    have bg150168' : gB g150168 0 999999 := ⟨by omega, by omega⟩
                    have bp147014' : gB p147014 1 1000000 := ⟨by omega, by omega⟩
                    refine G_aload_n 2 dr_cX17_findDepth_351 rfl ?_
                    have hm150184 : q17244 ∈ P17242 := RS_m hT150170 htq17244 (by decide)
                    obtain ⟨q150186, q150187, p150188, p150189, p150190, p150191, p150192, p150193, p150194, p150195, p150196, p150197, p150198, p150199, p150200, p150201, p150202, he150185, hB150229, ht150203, ht150204, ht150205, ht150206, ht150207, ht150208, ht150209, ht150210, ht150211, ht150212, ht150213, ht150214, ht150215, ht150216, ht150217, ht150218, ht150219, ht150220, ht150221, ht150222, ht150223, ht150224, ht150225, ht150226, hB150230⟩ := show rk_10 γ (F150169 q17244) from RS_o hT150170 htq17244
                    refine Gp_get 4 hm150184 he150185 dr_cX17_findDepth_352 (gk_X17 D I) (Nat.le_of_ble_eq_true rfl) wr_7_78 rfl ?_
                    refine G_iload 0 dr_cX17_findDepth_355 rfl ?_
                    refine G_aload_n 2 dr_cX17_findDepth_357 rfl ?_
                    refine Gp_get 4 hm150184 he150185 dr_cX17_findDepth_358 (gk_X17 D I) (Nat.le_of_ble_eq_true rfl) wr_7_78 rfl ?_
                    refine G_iload 0 dr_cX17_findDepth_361 rfl ?_
                    have hm150231 : (γ 9 4) ∈ P17242 := RS_m hT150170 ht150209 (by decide)
                    obtain ⟨f150233, he150232⟩ := show rk_16 I (F150169 (γ 9 4)) from RS_o hT150170 ht150209
                    refine Gp_iald 0 hm150231 he150232 dr_cX17_findDepth_363 rfl (gB_inr (by omega) (by omega)) (G_nam fun z150234 hz150234 => ?_)
                    have bz150234 : gB z150234 (-2147483648) 2147483647 := gB_any z150234
                    refine G_iconst 4 dr_cX17_findDepth_364 (by decide +kernel) ?_
                    refine G_mmin dr_cX17_findDepth_365 wr_11_20 wr_3_227 wr_1_6 wr_3_228 (Nat.le_of_ble_eq_true rfl) (Nat.le_of_ble_eq_true rfl) (show 0 ≤ 0 by first | omega | decide) (show 0 ≤ 0 by first | omega | decide) (G_nam fun z150235 hz150235 => ?_)
                    have ez150235 : z150234.toInt ≥ z150235.toInt ∧ 4 ≥ z150235.toInt ∧ (z150235.toInt = z150234.toInt ∨ z150235.toInt = 4) := by have := gI_min hz150235; rw [show Int32.toInt 4 = 4 from by decide] at this; omega
                    have bz150235 : gB z150235 (-2147483648) 4 := ⟨by omega, by omega⟩
                    refine Gp_iast 0 hm150231 he150232 dr_cX17_findDepth_368 rfl (gB_inr (by omega) (by omega)) (fun F150236 e150237 n150238 => ?_)
                    obtain ⟨f150239, hf150239⟩ : ∃ z, z = upd f150233 g150168.toNatClampNeg z150235 := ⟨_, rfl⟩
                    rw [← hf150239] at e150237
                    have he150240 : F150236 q17245 = .inr (18, [.ref q147011, .ref q147012, .int p147013, .int p147014]) := (n150238 q17245 (rn_oa he150174 he150232)).trans he150174
                    have he150241 : F150236 q17244 = .inr (22, [.ref (γ 9 0), .ref (γ 9 1), .ref (γ 9 2), .ref (γ 9 3), .ref (γ 9 4), .ref (γ 9 5), .ref (γ 9 6), .ref (γ 9 7), .ref (γ 9 8), .int p150188, .int p150189, .int p150190, .int p150191, .int p150192, .int p150193, .ref (γ 9 15), .ref (γ 9 16), .ref (γ 9 17), .ref (γ 9 18), .ref (γ 9 19), .ref (γ 9 20), .ref (γ 9 21), .ref (γ 9 22), .int p150194, .int p150195, .int p150196, .int p150197, .int p150198, .ref q150186, .ref (γ 9 29), .int p150199, .ref (γ 9 31), .int p150200, .int p150201, .int p150202, .ref q150187]) := (n150238 q17244 (rn_oa he150185 he150232)).trans he150185
                    have he150242 : F150236 (γ 9 4) = .inl (I .int, 40, .inl f150239) := e150237
                    have hs150243 : rStr γ F17243 F150236 := rStr_put hs150171 n150238 ht150209 (by decide)
                    obtain ⟨z150244, hz150244⟩ : ∃ z : Int32, z = g150168 + Int32.ofInt 1 := ⟨_, rfl⟩
                    have ez150244 : z150244.toInt = g150168.toInt + 1 := gI_inc hz150244 (by decide) bg150168' (by decide) (by decide)
                    have bz150244 : gB z150244 1 1000000 := ⟨by omega, by omega⟩
                    refine G_iinc (L' := [(4, .int z150244), (2, .long ol147041), (0, .ref q17244), (1, .ref q17245)]) z150244 0 dr_cX17_findDepth_369 rfl hz150244.symm (Nat.le_of_ble_eq_true rfl) rfl ?_
                    refine G_goto 342 dr_cX17_findDepth_372 (by decide +kernel) ?_
                    have hT150245 : RS D I P17242 F150236 γ el := RS_set hT150170 n150238 ht150209 (by decide) ⟨f150239, he150242⟩
                    exact ih342_150171 F150236 z150244 (gB_w bz150244 (by decide) (by decide)) hT150245 hs150243 (by omega)
              exact hlp342_150171 (((1000001 : Int) - 0).toNat + 1) F150077 0 (gB_w (gBl (show Int32.toInt 0 = 0 by decide)) (by decide) (by decide)) hT150078 hs150079 (Nat.lt_succ_self _)
            · have r150246 : g150076.toInt < p147014.toInt := gC_nle hc150089
              have bg150076' : gB g150076 0 999999 := ⟨by omega, by omega⟩
              have bp147014' : gB p147014 1 1000000 := ⟨by omega, by omega⟩
              refine G_lload_n 1 dr_cX17_findDepth_41 rfl ?_
              refine G_iload 0 dr_cX17_findDepth_42 rfl ?_
              refine G_lushr dr_cX17_findDepth_44 (G_namL fun u150247 hu150247 => ?_)
              refine G_lconst 1 dr_cX17_findDepth_45 rfl ?_
              refine G_land dr_cX17_findDepth_46 (G_namL fun u150248 hu150248 => ?_)
              refine G_lconst 0 dr_cX17_findDepth_47 rfl ?_
              refine G_lcmp dr_cX17_findDepth_48 (G_nam fun z150249 hz150249 => ?_)
              have bz150249 : gB z150249 (-1) 1 := gB_cmp hz150249
              refine G_if_ne 55 dr_cX17_findDepth_49 (by decide +kernel) (fun hc150250 => ?_) (fun hc150250 => ?_)
              · have r150251 : z150249.toInt ≠ 0 := gj_neq hc150250 (show Int32.toInt 0 = 0 by decide)
                have lhc150250 := gC_cmpN hz150249 hc150250
                refine G_lload_n 1 dr_cX17_findDepth_55 rfl ?_
                refine G_aload_n 3 dr_cX17_findDepth_56 rfl ?_
                refine G_iload 0 dr_cX17_findDepth_57 rfl ?_
                refine Gw_callS (As := [.ref q17245, .int g150076]) (gV_ok D I) (ct_10396_SpillForgeModel_reached l hl0 D I γ el P17242 F150077 q17245 g150076 hT150078 htq17245) dr_cX17_findDepth_59 ⟨wr_11_41, wr_1_14, wr_11_43, by decide, rfl, (Nat.le_of_ble_eq_true rfl), (Nat.le_of_ble_eq_true rfl)⟩ wr_11_42 (show 0 + 0 ≤ 0 by first | omega | decide) (show 0 + 0 ≤ 0 by first | omega | decide) (Nat.le_of_ble_eq_true rfl) (fun r150255 w150256 dc150252 ds150253 hp150254 => ?_) (fun _ _ _ _ _ z => z.elim)
                obtain ⟨ol150257, rfl, rfl, hdc, hds⟩ := hp150254
                change G _ _ _ _ _ _ _ (.long ol150257 :: _) _ _ _
                refine G_widen (cs' := 0) (sl' := 0) (by omega) (by omega) ?_
                refine G_ldc2 (-1) dr_cX17_findDepth_62 wr_10_188 ?_
                refine G_lxor dr_cX17_findDepth_65 (G_namL fun u150258 hu150258 => ?_)
                refine G_land dr_cX17_findDepth_66 (G_namL fun u150259 hu150259 => ?_)
                refine G_lstore (L' := [(5, .long u150259), (4, .int g150076), (2, .long ol147041), (0, .ref q17244), (1, .ref q17245)]) dr_cX17_findDepth_67 (Nat.le_of_ble_eq_true rfl) rfl ?_
                refine G_lconst 0 dr_cX17_findDepth_69 rfl ?_
                refine G_lstore (L' := [(7, .long 0), (5, .long u150259), (4, .int g150076), (2, .long ol147041), (0, .ref q17244), (1, .ref q17245)]) dr_cX17_findDepth_70 (Nat.le_of_ble_eq_true rfl) rfl ?_
                refine G_iconst 0 dr_cX17_findDepth_72 (by decide +kernel) ?_
                refine G_istore (L' := [(9, .int 0), (7, .long 0), (5, .long u150259), (4, .int g150076), (2, .long ol147041), (0, .ref q17244), (1, .ref q17245)]) dr_cX17_findDepth_73 (Nat.le_of_ble_eq_true rfl) rfl ?_
                have hlp75_151685 : ∀ (n75_151685 : Nat) (g151684 : Int32) (gl151685 : Int64), gB g151684 0 1000000 → ((1000001 : Int) - g151684.toInt).toNat < n75_151685 → G (gV D I) l (gRm 5 112 0 0) (gMA (gV D I) (pt_17247_SpillForgeModel_findDepth D I γ el P17242 F17243 q17244 q17245) gNA 0 0) ky_17247_SpillForgeModel_findDepth 75 [(9, .int g151684), (7, .long gl151685), (5, .long u150259), (4, .int g150076), (2, .long ol147041), (0, .ref q17244), (1, .ref q17245)] [] (va_pl P17242 F150077) 0 0 := by
                  intro n75_151685
                  induction n75_151685 with
                  | zero => intro g151684 gl151685 bg151684 hm75_151685; exact absurd hm75_151685 (Nat.not_lt_zero _)
                  | succ n75_151685 ih75_151685 =>
                    intro g151684 gl151685 bg151684 hm75_151685
                    refine G_iload 0 dr_cX17_findDepth_75 rfl ?_
                    refine G_aload_n 6 dr_cX17_findDepth_77 rfl ?_
                    refine Gw_callV (As := []) (gV_ok D I) (cp_10426_Code_size l hl0 D I P17242 F150077 q17245 q147011 q147012 p147013 p147014 hm147009 he150082) dr_cX17_findDepth_78 ⟨wr_10_160, wr_1_15, wr_9_131, by decide, rfl, (Nat.le_of_ble_eq_true rfl), (Nat.le_of_ble_eq_true rfl)⟩ wr_9_129 wr_9_130 hm147009 he150082 rfl (show 0 + 0 ≤ 0 by first | omega | decide) (show 0 + 0 ≤ 0 by first | omega | decide) (Nat.le_of_ble_eq_true rfl) (fun r151690 w151691 dc151687 ds151688 hp151689 => ?_) (fun _ _ _ _ _ z => z.elim)
                    obtain ⟨rfl, rfl, hdc, hds⟩ := hp151689
                    change G _ _ _ _ _ _ _ (.int p147014 :: _) _ _ _
                    refine G_widen (cs' := 0) (sl' := 0) (by omega) (by omega) ?_
                    refine G_icmp_ge 125 dr_cX17_findDepth_81 (by decide +kernel) (fun hc151692 => ?_) (fun hc151692 => ?_)
                    · have r151693 : p147014.toInt ≤ g151684.toInt := gC_le hc151692
                      have bg151684' : gB g151684 1 1000000 := ⟨by omega, by omega⟩
                      refine G_lload 1 dr_cX17_findDepth_125 rfl ?_
                      refine G_lconst 0 dr_cX17_findDepth_127 rfl ?_
                      refine G_lcmp dr_cX17_findDepth_128 (G_nam fun z151694 hz151694 => ?_)
                      have bz151694 : gB z151694 (-1) 1 := gB_cmp hz151694
                      refine G_if_ne 135 dr_cX17_findDepth_129 (by decide +kernel) (fun hc151695 => ?_) (fun hc151695 => ?_)
                      · have r151696 : z151694.toInt ≠ 0 := gj_neq hc151695 (show Int32.toInt 0 = 0 by decide)
                        have lhc151695 := gC_cmpN hz151694 hc151695
                        refine G_lload 1 dr_cX17_findDepth_135 rfl ?_
                        refine G_lconst 1 dr_cX17_findDepth_137 rfl ?_
                        refine G_iload 3 dr_cX17_findDepth_138 rfl ?_
                        refine G_lshl dr_cX17_findDepth_140 (G_namL fun u151697 hu151697 => ?_)
                        have qu151697 : lb_Q u151697 (g150076.toInt % 64 + 1) := lb_Qshl hu151697 (by omega)
                        refine G_lor dr_cX17_findDepth_141 (G_namL fun u151698 hu151698 => ?_)
                        have pmu151698 : rpop gl151685 ≤ rpop u151698 := rpop_or hu151698
                        refine G_lstore (L' := [(7, .long u151698), (9, .int g151684), (5, .long u150259), (4, .int g150076), (2, .long ol147041), (0, .ref q17244), (1, .ref q17245)]) dr_cX17_findDepth_142 (Nat.le_of_ble_eq_true rfl) rfl ?_
                        refine G_iconst 1 dr_cX17_findDepth_144 (by decide +kernel) ?_
                        refine G_istore (L' := [(9, .int 1), (7, .long u151698), (5, .long u150259), (4, .int g150076), (2, .long ol147041), (0, .ref q17244), (1, .ref q17245)]) dr_cX17_findDepth_145 (Nat.le_of_ble_eq_true rfl) rfl ?_
                        have hlp147_152372 : ∀ (n147_152372 : Nat) (g152370 : Int32) (gl152371 : Int64), gB g152370 0 1 → rpop gl152371 ≤ 64 → (64 - rpop gl152371) + ((g152370.toInt : Int)).toNat < n147_152372 → G (gV D I) l (gRm 5 112 0 0) (gMA (gV D I) (pt_17247_SpillForgeModel_findDepth D I γ el P17242 F17243 q17244 q17245) gNA 0 0) ky_17247_SpillForgeModel_findDepth 147 [(9, .int g152370), (7, .long gl152371), (5, .long u150259), (4, .int g150076), (2, .long ol147041), (0, .ref q17244), (1, .ref q17245)] [] (va_pl P17242 F150077) 0 0 := by
                          intro n147_152372
                          induction n147_152372 with
                          | zero => intro g152370 gl152371 bg152370 x152372 hm147_152372; exact absurd hm147_152372 (Nat.not_lt_zero _)
                          | succ n147_152372 ih147_152372 =>
                            intro g152370 gl152371 bg152370 x152372 hm147_152372
                            refine G_iload 0 dr_cX17_findDepth_147 rfl ?_
                            refine G_if_eq 297 dr_cX17_findDepth_149 (by decide +kernel) (fun hc152374 => ?_) (fun hc152374 => ?_)
                            · have r152375 : g152370.toInt = 0 := gj_eq hc152374 (show Int32.toInt 0 = 0 by decide)
                              have bg152370' : gB g152370 0 0 := ⟨by omega, by omega⟩
                              refine G_iconst 0 dr_cX17_findDepth_297 (by decide +kernel) ?_
                              refine G_istore (L' := [(10, .int 0), (9, .int g152370), (7, .long gl152371), (5, .long u150259), (4, .int g150076), (2, .long ol147041), (0, .ref q17244), (1, .ref q17245)]) dr_cX17_findDepth_298 (Nat.le_of_ble_eq_true rfl) rfl ?_
                              have hlp300_152460 : ∀ (n300_152460 : Nat) (F152458 : Nat → va_E) (g152457 : Int32), gB g152457 0 1000000 → RS D I P17242 F152458 γ el → rStr γ F17243 F152458 → ((1000001 : Int) - g152457.toInt).toNat < n300_152460 → G (gV D I) l (gRm 5 112 0 0) (gMA (gV D I) (pt_17247_SpillForgeModel_findDepth D I γ el P17242 F17243 q17244 q17245) gNA 0 0) ky_17247_SpillForgeModel_findDepth 300 [(10, .int g152457), (9, .int g152370), (7, .long gl152371), (5, .long u150259), (4, .int g150076), (2, .long ol147041), (0, .ref q17244), (1, .ref q17245)] [] (va_pl P17242 F152458) 0 0 := by
                                intro n300_152460
                                induction n300_152460 with
                                | zero => intro F152458 g152457 bg152457 hT152459 hs152460 hm300_152460; exact absurd hm300_152460 (Nat.not_lt_zero _)
                                | succ n300_152460 ih300_152460 =>
                                  intro F152458 g152457 bg152457 hT152459 hs152460 hm300_152460
                                  have hs152462 : rStr γ F150077 F152458 := fun b h0 hb => (hs152460 b h0 hb).trans (hs150079 b h0 hb).symm
                                  have he152463 : F152458 q17245 = .inr (18, [.ref q147011, .ref q147012, .int p147013, .int p147014]) := (hs152462 q17245 (rT0 htq17245 (by decide)) (rT1 htq17245 (by decide))).trans he150082
                                  have hs152464 : rStr γ F17243 F152458 := rStr_tr hs150079 hs152462
                                  refine G_iload 0 dr_cX17_findDepth_300 rfl ?_
                                  refine G_aload_n 7 dr_cX17_findDepth_302 rfl ?_
                                  refine Gw_callV (As := []) (gV_ok D I) (cp_10426_Code_size l hl0 D I P17242 F152458 q17245 q147011 q147012 p147013 p147014 hm147009 he152463) dr_cX17_findDepth_303 ⟨wr_10_160, wr_1_15, wr_9_131, by decide, rfl, (Nat.le_of_ble_eq_true rfl), (Nat.le_of_ble_eq_true rfl)⟩ wr_9_129 wr_9_130 hm147009 he152463 rfl (show 0 + 0 ≤ 0 by first | omega | decide) (show 0 + 0 ≤ 0 by first | omega | decide) (Nat.le_of_ble_eq_true rfl) (fun r152468 w152469 dc152465 ds152466 hp152467 => ?_) (fun _ _ _ _ _ z => z.elim)
                                  obtain ⟨rfl, rfl, hdc, hds⟩ := hp152467
                                  change G _ _ _ _ _ _ _ (.int p147014 :: _) _ _ _
                                  refine G_widen (cs' := 0) (sl' := 0) (by omega) (by omega) ?_
                                  refine G_icmp_ge 333 dr_cX17_findDepth_306 (by decide +kernel) (fun hc152470 => ?_) (fun hc152470 => ?_)
                                  · have r152471 : p147014.toInt ≤ g152457.toInt := gC_le hc152470
                                    have bg152457' : gB g152457 1 1000000 := ⟨by omega, by omega⟩
                                    obtain ⟨z152472, hz152472⟩ : ∃ z : Int32, z = g150076 + Int32.ofInt 1 := ⟨_, rfl⟩
                                    have ez152472 : z152472.toInt = g150076.toInt + 1 := gI_inc hz152472 (by decide) bg150076' (by decide) (by decide)
                                    have bz152472 : gB z152472 1 1000000 := ⟨by omega, by omega⟩
                                    refine G_iinc (L' := [(4, .int z152472), (10, .int g152457), (9, .int g152370), (7, .long gl152371), (5, .long u150259), (2, .long ol147041), (0, .ref q17244), (1, .ref q17245)]) z152472 4 dr_cX17_findDepth_333 rfl hz152472.symm (Nat.le_of_ble_eq_true rfl) rfl ?_
                                    refine G_goto 32 dr_cX17_findDepth_336 (by decide +kernel) ?_
                                    refine G_lv (L' := [(4, .int z152472), (2, .long ol147041), (0, .ref q17244), (1, .ref q17245)]) [0, 5, 6, 7] rfl ?_
                                    exact ih32_150079 F152458 z152472 (gB_w bz152472 (by decide) (by decide)) hT152459 hs152460 (by omega)
                                  · have r152473 : g152457.toInt < p147014.toInt := gC_nle hc152470
                                    have bg152457' : gB g152457 0 999999 := ⟨by omega, by omega⟩
                                    refine G_aload_n 6 dr_cX17_findDepth_309 rfl ?_
                                    have hm152474 : q17244 ∈ P17242 := RS_m hT152459 htq17244 (by decide)
                                    obtain ⟨q152476, q152477, p152478, p152479, p152480, p152481, p152482, p152483, p152484, p152485, p152486, p152487, p152488, p152489, p152490, p152491, p152492, he152475, hB152519, ht152493, ht152494, ht152495, ht152496, ht152497, ht152498, ht152499, ht152500, ht152501, ht152502, ht152503, ht152504, ht152505, ht152506, ht152507, ht152508, ht152509, ht152510, ht152511, ht152512, ht152513, ht152514, ht152515, ht152516, hB152520⟩ := show rk_10 γ (F152458 q17244) from RS_o hT152459 htq17244
                                    refine Gp_get 4 hm152474 he152475 dr_cX17_findDepth_310 (gk_X17 D I) (Nat.le_of_ble_eq_true rfl) wr_7_78 rfl ?_
                                    refine G_iload 0 dr_cX17_findDepth_313 rfl ?_
                                    refine G_dup2_11 dr_cX17_findDepth_315 rfl rfl ?_
                                    have hm152521 : (γ 9 4) ∈ P17242 := RS_m hT152459 ht152499 (by decide)
                                    obtain ⟨f152523, he152522⟩ := show rk_16 I (F152458 (γ 9 4)) from RS_o hT152459 ht152499
                                    refine Gp_iald 0 hm152521 he152522 dr_cX17_findDepth_316 rfl (gB_inr (by omega) (by omega)) (G_nam fun z152524 hz152524 => ?_)
                                    have bz152524 : gB z152524 (-2147483648) 2147483647 := gB_any z152524
                                    refine G_lload 2 dr_cX17_findDepth_317 rfl ?_
                                    refine G_iload 0 dr_cX17_findDepth_319 rfl ?_
                                    refine G_lushr dr_cX17_findDepth_321 (G_namL fun u152525 hu152525 => ?_)
                                    refine G_lconst 1 dr_cX17_findDepth_322 rfl ?_
                                    refine G_land dr_cX17_findDepth_323 (G_namL fun u152526 hu152526 => ?_)
                                    refine G_l2i dr_cX17_findDepth_324 (G_nam fun z152527 hz152527 => ?_)
                                    have bz152527 : gB z152527 (-2147483648) 2147483647 := gB_any z152527
                                    refine G_iadd dr_cX17_findDepth_325 (G_nam fun z152528 hz152528 => ?_)
                                    have bz152528 : gB z152528 (-2147483648) 2147483647 := gB_any z152528
                                    refine Gp_iast 0 hm152521 he152522 dr_cX17_findDepth_326 rfl (gB_inr (by omega) (by omega)) (fun F152529 e152530 n152531 => ?_)
                                    obtain ⟨f152532, hf152532⟩ : ∃ z, z = upd f152523 g152457.toNatClampNeg z152528 := ⟨_, rfl⟩
                                    rw [← hf152532] at e152530
                                    have he152533 : F152529 q17245 = .inr (18, [.ref q147011, .ref q147012, .int p147013, .int p147014]) := (n152531 q17245 (rn_oa he152463 he152522)).trans he152463
                                    have he152534 : F152529 q17244 = .inr (22, [.ref (γ 9 0), .ref (γ 9 1), .ref (γ 9 2), .ref (γ 9 3), .ref (γ 9 4), .ref (γ 9 5), .ref (γ 9 6), .ref (γ 9 7), .ref (γ 9 8), .int p152478, .int p152479, .int p152480, .int p152481, .int p152482, .int p152483, .ref (γ 9 15), .ref (γ 9 16), .ref (γ 9 17), .ref (γ 9 18), .ref (γ 9 19), .ref (γ 9 20), .ref (γ 9 21), .ref (γ 9 22), .int p152484, .int p152485, .int p152486, .int p152487, .int p152488, .ref q152476, .ref (γ 9 29), .int p152489, .ref (γ 9 31), .int p152490, .int p152491, .int p152492, .ref q152477]) := (n152531 q17244 (rn_oa he152475 he152522)).trans he152475
                                    have he152535 : F152529 (γ 9 4) = .inl (I .int, 40, .inl f152532) := e152530
                                    have hs152536 : rStr γ F17243 F152529 := rStr_put hs152460 n152531 ht152499 (by decide)
                                    obtain ⟨z152537, hz152537⟩ : ∃ z : Int32, z = g152457 + Int32.ofInt 1 := ⟨_, rfl⟩
                                    have ez152537 : z152537.toInt = g152457.toInt + 1 := gI_inc hz152537 (by decide) bg152457' (by decide) (by decide)
                                    have bz152537 : gB z152537 1 1000000 := ⟨by omega, by omega⟩
                                    refine G_iinc (L' := [(10, .int z152537), (9, .int g152370), (7, .long gl152371), (5, .long u150259), (4, .int g150076), (2, .long ol147041), (0, .ref q17244), (1, .ref q17245)]) z152537 0 dr_cX17_findDepth_327 rfl hz152537.symm (Nat.le_of_ble_eq_true rfl) rfl ?_
                                    refine G_goto 300 dr_cX17_findDepth_330 (by decide +kernel) ?_
                                    have hT152538 : RS D I P17242 F152529 γ el := RS_set hT152459 n152531 ht152499 (by decide) ⟨f152532, he152535⟩
                                    exact ih300_152460 F152529 z152537 (gB_w bz152537 (by decide) (by decide)) hT152538 hs152536 (by omega)
                              exact hlp300_152460 (((1000001 : Int) - 0).toNat + 1) F150077 0 (gB_w (gBl (show Int32.toInt 0 = 0 by decide)) (by decide) (by decide)) hT150078 hs150079 (Nat.lt_succ_self _)
                            · have r152539 : g152370.toInt ≠ 0 := gj_neq hc152374 (show Int32.toInt 0 = 0 by decide)
                              have bg152370' : gB g152370 1 1 := ⟨by omega, by omega⟩
                              refine G_iconst 0 dr_cX17_findDepth_152 (by decide +kernel) ?_
                              refine G_istore (L' := [(9, .int 0), (7, .long gl152371), (5, .long u150259), (4, .int g150076), (2, .long ol147041), (0, .ref q17244), (1, .ref q17245)]) dr_cX17_findDepth_153 (Nat.le_of_ble_eq_true rfl) rfl ?_
                              refine G_iconst 0 dr_cX17_findDepth_155 (by decide +kernel) ?_
                              refine G_istore (L' := [(10, .int 0), (9, .int 0), (7, .long gl152371), (5, .long u150259), (4, .int g150076), (2, .long ol147041), (0, .ref q17244), (1, .ref q17245)]) dr_cX17_findDepth_156 (Nat.le_of_ble_eq_true rfl) rfl ?_
                              have hlp158_152794 : ∀ (n158_152794 : Nat) (g152790 : Int32) (g152791 : Int32) (gl152792 : Int64), gB g152790 0 1000000 → gB g152791 0 1 → rpop gl152792 ≤ 64 → rpop gl152371 + ((g152791.toInt : Int)).toNat ≤ rpop gl152792 → ((1000001 : Int) - g152790.toInt).toNat < n158_152794 → G (gV D I) l (gRm 5 112 0 0) (gMA (gV D I) (pt_17247_SpillForgeModel_findDepth D I γ el P17242 F17243 q17244 q17245) gNA 0 0) ky_17247_SpillForgeModel_findDepth 158 [(10, .int g152790), (9, .int g152791), (7, .long gl152792), (5, .long u150259), (4, .int g150076), (2, .long ol147041), (0, .ref q17244), (1, .ref q17245)] [] (va_pl P17242 F150077) 0 0 := by
                                intro n158_152794
                                induction n158_152794 with
                                | zero => intro g152790 g152791 gl152792 bg152790 bg152791 x152793 x152794 hm158_152794; exact absurd hm158_152794 (Nat.not_lt_zero _)
                                | succ n158_152794 ih158_152794 =>
                                  intro g152790 g152791 gl152792 bg152790 bg152791 x152793 x152794 hm158_152794
                                  refine G_iload 0 dr_cX17_findDepth_158 rfl ?_
                                  refine G_aload_n 7 dr_cX17_findDepth_160 rfl ?_
                                  refine Gw_callV (As := []) (gV_ok D I) (cp_10426_Code_size l hl0 D I P17242 F150077 q17245 q147011 q147012 p147013 p147014 hm147009 he150082) dr_cX17_findDepth_161 ⟨wr_10_160, wr_1_15, wr_9_131, by decide, rfl, (Nat.le_of_ble_eq_true rfl), (Nat.le_of_ble_eq_true rfl)⟩ wr_9_129 wr_9_130 hm147009 he150082 rfl (show 0 + 0 ≤ 0 by first | omega | decide) (show 0 + 0 ≤ 0 by first | omega | decide) (Nat.le_of_ble_eq_true rfl) (fun r152799 w152800 dc152796 ds152797 hp152798 => ?_) (fun _ _ _ _ _ z => z.elim)
                                  obtain ⟨rfl, rfl, hdc, hds⟩ := hp152798
                                  change G _ _ _ _ _ _ _ (.int p147014 :: _) _ _ _
                                  refine G_widen (cs' := 0) (sl' := 0) (by omega) (by omega) ?_
                                  refine G_icmp_ge 294 dr_cX17_findDepth_164 (by decide +kernel) (fun hc152801 => ?_) (fun hc152801 => ?_)
                                  · have r152802 : p147014.toInt ≤ g152790.toInt := gC_le hc152801
                                    have bg152790' : gB g152790 1 1000000 := ⟨by omega, by omega⟩
                                    refine G_goto 147 dr_cX17_findDepth_294 (by decide +kernel) ?_
                                    refine G_lv (L' := [(9, .int g152791), (7, .long gl152792), (5, .long u150259), (4, .int g150076), (2, .long ol147041), (0, .ref q17244), (1, .ref q17245)]) [1, 2, 3, 4, 5, 6, 7] rfl ?_
                                    exact ih147_152372 g152791 gl152792 bg152791 (rpop_le gl152792) (by omega)
                                  · have r152803 : g152790.toInt < p147014.toInt := gC_nle hc152801
                                    have bg152790' : gB g152790 0 999999 := ⟨by omega, by omega⟩
                                    refine G_lload 2 dr_cX17_findDepth_167 rfl ?_
                                    refine G_iload 0 dr_cX17_findDepth_169 rfl ?_
                                    refine G_lushr dr_cX17_findDepth_171 (G_namL fun u152804 hu152804 => ?_)
                                    refine G_lconst 1 dr_cX17_findDepth_172 rfl ?_
                                    refine G_land dr_cX17_findDepth_173 (G_namL fun u152805 hu152805 => ?_)
                                    refine G_lconst 0 dr_cX17_findDepth_174 rfl ?_
                                    refine G_lcmp dr_cX17_findDepth_175 (G_nam fun z152806 hz152806 => ?_)
                                    have bz152806 : gB z152806 (-1) 1 := gB_cmp hz152806
                                    refine G_if_ne 288 dr_cX17_findDepth_176 (by decide +kernel) (fun hc152807 => ?_) (fun hc152807 => ?_)
                                    · have r152808 : z152806.toInt ≠ 0 := gj_neq hc152807 (show Int32.toInt 0 = 0 by decide)
                                      have lhc152807 := gC_cmpN hz152806 hc152807
                                      obtain ⟨z152809, hz152809⟩ : ∃ z : Int32, z = g152790 + Int32.ofInt 1 := ⟨_, rfl⟩
                                      have ez152809 : z152809.toInt = g152790.toInt + 1 := gI_inc hz152809 (by decide) bg152790' (by decide) (by decide)
                                      have bz152809 : gB z152809 1 1000000 := ⟨by omega, by omega⟩
                                      refine G_iinc (L' := [(10, .int z152809), (9, .int g152791), (7, .long gl152792), (5, .long u150259), (4, .int g150076), (2, .long ol147041), (0, .ref q17244), (1, .ref q17245)]) z152809 0 dr_cX17_findDepth_288 rfl hz152809.symm (Nat.le_of_ble_eq_true rfl) rfl ?_
                                      refine G_goto 158 dr_cX17_findDepth_291 (by decide +kernel) ?_
                                      exact ih158_152794 z152809 g152791 gl152792 (gB_w bz152809 (by decide) (by decide)) bg152791 (rpop_le gl152792) (by omega) (by omega)
                                    · have r152810 : z152806.toInt = 0 := gj_eq hc152807 (show Int32.toInt 0 = 0 by decide)
                                      have bz152806' : gB z152806 0 0 := ⟨by omega, by omega⟩
                                      have lhc152807 := gC_cmpE hz152806 hc152807
                                      have zhc152807 := rbit_0 hu152804 hu152805 lhc152807 (by omega) (by omega)
                                      refine G_lload_n 5 dr_cX17_findDepth_179 rfl ?_
                                      refine G_iload 0 dr_cX17_findDepth_180 rfl ?_
                                      refine G_lushr dr_cX17_findDepth_182 (G_namL fun u152811 hu152811 => ?_)
                                      refine G_lconst 1 dr_cX17_findDepth_183 rfl ?_
                                      refine G_land dr_cX17_findDepth_184 (G_namL fun u152812 hu152812 => ?_)
                                      refine G_lconst 0 dr_cX17_findDepth_185 rfl ?_
                                      refine G_lcmp dr_cX17_findDepth_186 (G_nam fun z152813 hz152813 => ?_)
                                      have bz152813 : gB z152813 (-1) 1 := gB_cmp hz152813
                                      refine G_if_ne 193 dr_cX17_findDepth_187 (by decide +kernel) (fun hc152814 => ?_) (fun hc152814 => ?_)
                                      · have r152815 : z152813.toInt ≠ 0 := gj_neq hc152814 (show Int32.toInt 0 = 0 by decide)
                                        have lhc152814 := gC_cmpN hz152813 hc152814
                                        refine G_iconst 0 dr_cX17_findDepth_193 (by decide +kernel) ?_
                                        refine G_istore (L' := [(11, .int 0), (10, .int g152790), (9, .int g152791), (7, .long gl152792), (5, .long u150259), (4, .int g150076), (2, .long ol147041), (0, .ref q17244), (1, .ref q17245)]) dr_cX17_findDepth_194 (Nat.le_of_ble_eq_true rfl) rfl ?_
                                        refine G_iconst 0 dr_cX17_findDepth_196 (by decide +kernel) ?_
                                        refine G_istore (L' := [(12, .int 0), (11, .int 0), (10, .int g152790), (9, .int g152791), (7, .long gl152792), (5, .long u150259), (4, .int g150076), (2, .long ol147041), (0, .ref q17244), (1, .ref q17245)]) dr_cX17_findDepth_197 (Nat.le_of_ble_eq_true rfl) rfl ?_
                                        have hlp199_152929 : ∀ (n199_152929 : Nat) (g152928 : Int32) (g152929 : Int32), gB g152928 0 2 → gB g152929 0 1 → ((3 : Int) - g152928.toInt).toNat < n199_152929 → G (gV D I) l (gRm 5 112 0 0) (gMA (gV D I) (pt_17247_SpillForgeModel_findDepth D I γ el P17242 F17243 q17244 q17245) gNA 0 0) ky_17247_SpillForgeModel_findDepth 199 [(12, .int g152928), (11, .int g152929), (10, .int g152790), (9, .int g152791), (7, .long gl152792), (5, .long u150259), (4, .int g150076), (2, .long ol147041), (0, .ref q17244), (1, .ref q17245)] [] (va_pl P17242 F150077) 0 0 := by
                                          intro n199_152929
                                          induction n199_152929 with
                                          | zero => intro g152928 g152929 bg152928 bg152929 hm199_152929; exact absurd hm199_152929 (Nat.not_lt_zero _)
                                          | succ n199_152929 ih199_152929 =>
                                            intro g152928 g152929 bg152928 bg152929 hm199_152929
                                            refine G_iload 0 dr_cX17_findDepth_199 rfl ?_
                                            refine G_aload_n 9 dr_cX17_findDepth_201 rfl ?_
                                            refine G_iload 2 dr_cX17_findDepth_202 rfl ?_
                                            have hm152931 : q147011 ∈ P17242 := RS_m hT150078 ht147015 (by decide)
                                            obtain ⟨⟨p152933, p152934, q152935, he152932, r152936, r152937, r152938⟩, r152939⟩ := show rk_4 D I γ el F150077 q147011 from RS_o hT150078 ht147015
                                            have bp152933 := gB_any p152933
                                            have bp152934 : gB p152934 0 1000000 := ⟨by omega, by omega⟩
                                            obtain ⟨r152940, r152941, n152947, f152948, r152942, r152943, r152944, r152945, r152946⟩ := rLC_n r152938 (by omega)
                                            have hm152949 : q152935 ∈ P17242 := RS_m hT150078 r152940 (by decide)
                                            obtain ⟨q152950, hx152951⟩ : ∃ x, x = el q147011 g152790.toInt.toNat := ⟨_, rfl⟩
                                            have hx152952 : f152948 g152790.toNatClampNeg = some q152950 := (r152945 _ (show g152790.toInt.toNat < γ 2 q147011 by omega)).trans (by rw [hx152951])
                                            have ht152955 : rKd γ q152950 2 := by rw [hx152951]; exact r147026 _ (by omega)
                                            have ht152956 : rFm γ q152950 q147011 := by rw [hx152951]; exact (r152939 _ (show g152790.toInt.toNat < γ 2 q147011 by omega)).2.1
                                            have hm152957 : q152950 ∈ P17242 := RS_m hT150078 ht152955 (by decide)
                                            obtain ⟨q152959, q152960, p152961, p152962, he152958, ht152963, ht152964, ht152965, ht152966, ht152967, bp152961, bp152962, r152968⟩ := show rk_2 γ q152950 (F150077 q152950) from RS_o hT150078 ht152955
                                            refine Gw_callV (As := [.int g152790]) (gV_ok D I) (cp_6012_Code_get l hl0 D I P17242 F150077 q17245 q147011 q152935 g152790 q147012 p147013 p147014 p152933 p152934 f152948 n152947 q152950 q152959 q152960 p152961 p152962 hm147009 hm152931 hm152949 hm152957 he150082 he152932 r152942 he152958 (gB_w bg152790' (by decide) (by decide)) (gB_w bp152934 (by decide) (by decide)) (by omega) (by omega) (by assumption) (by omega)) dr_cX17_findDepth_204 ⟨wr_10_161, wr_1_15, wr_10_141, by decide, rfl, (Nat.le_of_ble_eq_true rfl), (Nat.le_of_ble_eq_true rfl)⟩ wr_10_139 wr_10_140 hm147009 he150082 rfl (show 0 + 0 ≤ 0 by first | omega | decide) (show 0 + 0 ≤ 0 by first | omega | decide) (Nat.le_of_ble_eq_true rfl) (fun r152972 w152973 dc152969 ds152970 hp152971 => ?_) (fun _ _ _ _ _ z => z.elim)
                                            obtain ⟨rfl, rfl, hdc, hds⟩ := hp152971
                                            change G _ _ _ _ _ _ _ (.ref q152950 :: _) _ _ _
                                            refine G_widen (cs' := 0) (sl' := 0) (by omega) (by omega) ?_
                                            have hm152974 : q152960 ∈ P17242 := RS_m hT150078 ht152965 (by decide)
                                            obtain ⟨p152976, p152977, p152978, p152979, p152980, p152981, p152982, he152975, bp152976, bp152977, bp152980, bp152981, bp152982, r152983, r152984, r152985, r152986⟩ := show rk_1 γ q152960 (F150077 q152960) from RS_o hT150078 ht152965
                                            have bp152978 := gB_any p152978
                                            have bp152979 := gB_any p152979
                                            refine Gw_callV (As := []) (gV_ok D I) (cp_1809_Block_ways l hl0 D I P17242 F150077 q152950 q152960 q152959 p152961 p152962 p152976 p152977 p152978 p152979 p152980 p152981 p152982 hm152957 hm152974 he152958 he152975 bp152961 bp152962 bp152976 bp152977 bp152980 bp152981 bp152982) dr_cX17_findDepth_207 ⟨wr_10_166, wr_1_38, wr_10_169, by decide, rfl, (Nat.le_of_ble_eq_true rfl), (Nat.le_of_ble_eq_true rfl)⟩ wr_10_167 wr_10_168 hm152957 he152958 rfl (show 0 + 0 ≤ 0 by first | omega | decide) (show 0 + 0 ≤ 0 by first | omega | decide) (Nat.le_of_ble_eq_true rfl) (fun r152990 w152991 dc152987 ds152988 hp152989 => ?_) (fun _ _ _ _ _ z => z.elim)
                                            obtain ⟨o152992, rfl, rfl, hdc, hds, bo152992⟩ := hp152989
                                            change G _ _ _ _ _ _ _ (.int o152992 :: _) _ _ _
                                            refine G_widen (cs' := 0) (sl' := 0) (by omega) (by omega) ?_
                                            refine G_icmp_ge 268 dr_cX17_findDepth_210 (by decide +kernel) (fun hc152993 => ?_) (fun hc152993 => ?_)
                                            · have r152994 : o152992.toInt ≤ g152928.toInt := gC_le hc152993
                                              refine G_iload 1 dr_cX17_findDepth_268 rfl ?_
                                              refine G_if_ne 276 dr_cX17_findDepth_270 (by decide +kernel) (fun hc152995 => ?_) (fun hc152995 => ?_)
                                              · have r152996 : g152929.toInt ≠ 0 := gj_neq hc152995 (show Int32.toInt 0 = 0 by decide)
                                                have bg152929' : gB g152929 1 1 := ⟨by omega, by omega⟩
                                                refine G_lload 4 dr_cX17_findDepth_276 rfl ?_
                                                refine G_lconst 1 dr_cX17_findDepth_278 rfl ?_
                                                refine G_iload 2 dr_cX17_findDepth_279 rfl ?_
                                                refine G_lshl dr_cX17_findDepth_281 (G_namL fun u152997 hu152997 => ?_)
                                                have qu152997 : lb_Q u152997 (g152790.toInt % 64 + 1) := lb_Qshl hu152997 (by omega)
                                                refine G_lor dr_cX17_findDepth_282 (G_namL fun u152998 hu152998 => ?_)
                                                have pmu152998 : rpop gl152792 ≤ rpop u152998 := rpop_or hu152998
                                                have pnu152998 : rpop gl152792 + 1 ≤ rpop u152998 := rpop_new hu152998 hu152997 (by omega) (by omega) zhc152807
                                                refine G_lstore (L' := [(7, .long u152998), (12, .int g152928), (11, .int g152929), (10, .int g152790), (9, .int g152791), (5, .long u150259), (4, .int g150076), (2, .long ol147041), (0, .ref q17244), (1, .ref q17245)]) dr_cX17_findDepth_283 (Nat.le_of_ble_eq_true rfl) rfl ?_
                                                refine G_iconst 1 dr_cX17_findDepth_285 (by decide +kernel) ?_
                                                refine G_istore (L' := [(9, .int 1), (7, .long u152998), (12, .int g152928), (11, .int g152929), (10, .int g152790), (5, .long u150259), (4, .int g150076), (2, .long ol147041), (0, .ref q17244), (1, .ref q17245)]) dr_cX17_findDepth_286 (Nat.le_of_ble_eq_true rfl) rfl ?_
                                                obtain ⟨z152999, hz152999⟩ : ∃ z : Int32, z = g152790 + Int32.ofInt 1 := ⟨_, rfl⟩
                                                have ez152999 : z152999.toInt = g152790.toInt + 1 := gI_inc hz152999 (by decide) bg152790' (by decide) (by decide)
                                                have bz152999 : gB z152999 1 1000000 := ⟨by omega, by omega⟩
                                                refine G_iinc (L' := [(10, .int z152999), (9, .int 1), (7, .long u152998), (12, .int g152928), (11, .int g152929), (5, .long u150259), (4, .int g150076), (2, .long ol147041), (0, .ref q17244), (1, .ref q17245)]) z152999 4 dr_cX17_findDepth_288 rfl hz152999.symm (Nat.le_of_ble_eq_true rfl) rfl ?_
                                                refine G_goto 158 dr_cX17_findDepth_291 (by decide +kernel) ?_
                                                refine G_lv (L' := [(10, .int z152999), (9, .int 1), (7, .long u152998), (5, .long u150259), (4, .int g150076), (2, .long ol147041), (0, .ref q17244), (1, .ref q17245)]) [0, 1, 2, 5, 6, 7, 8, 9] rfl ?_
                                                exact ih158_152794 z152999 1 u152998 (gB_w bz152999 (by decide) (by decide)) (gB_w (gBl (show Int32.toInt 1 = 1 by decide)) (by decide) (by decide)) (rpop_le u152998) (by have qa0 : Int32.toInt 1 = 1 := (by decide); omega) (by have qa0 : Int32.toInt 1 = 1 := (by decide); omega)
                                              · have r153000 : g152929.toInt = 0 := gj_eq hc152995 (show Int32.toInt 0 = 0 by decide)
                                                have bg152929' : gB g152929 0 0 := ⟨by omega, by omega⟩
                                                refine G_goto 288 dr_cX17_findDepth_273 (by decide +kernel) ?_
                                                obtain ⟨z153001, hz153001⟩ : ∃ z : Int32, z = g152790 + Int32.ofInt 1 := ⟨_, rfl⟩
                                                have ez153001 : z153001.toInt = g152790.toInt + 1 := gI_inc hz153001 (by decide) bg152790' (by decide) (by decide)
                                                have bz153001 : gB z153001 1 1000000 := ⟨by omega, by omega⟩
                                                refine G_iinc (L' := [(10, .int z153001), (12, .int g152928), (11, .int g152929), (9, .int g152791), (7, .long gl152792), (5, .long u150259), (4, .int g150076), (2, .long ol147041), (0, .ref q17244), (1, .ref q17245)]) z153001 2 dr_cX17_findDepth_288 rfl hz153001.symm (Nat.le_of_ble_eq_true rfl) rfl ?_
                                                refine G_goto 158 dr_cX17_findDepth_291 (by decide +kernel) ?_
                                                refine G_lv (L' := [(10, .int z153001), (9, .int g152791), (7, .long gl152792), (5, .long u150259), (4, .int g150076), (2, .long ol147041), (0, .ref q17244), (1, .ref q17245)]) [0, 3, 4, 5, 6, 7, 8, 9] rfl ?_
                                                exact ih158_152794 z153001 g152791 gl152792 (gB_w bz153001 (by decide) (by decide)) bg152791 (rpop_le gl152792) (by omega) (by omega)
                                            · have r153002 : g152928.toInt < o152992.toInt := gC_nle hc152993
                                              have bg152928' : gB g152928 0 1 := ⟨by omega, by omega⟩
                                              have bo152992' : gB o152992 1 2 := ⟨by omega, by omega⟩
                                              refine G_iload 1 dr_cX17_findDepth_213 rfl ?_
                                              refine G_if_ne 255 dr_cX17_findDepth_215 (by decide +kernel) (fun hc153003 => ?_) (fun hc153003 => ?_)
                                              · have r153004 : g152929.toInt ≠ 0 := gj_neq hc153003 (show Int32.toInt 0 = 0 by decide)
                                                have bg152929' : gB g152929 1 1 := ⟨by omega, by omega⟩
                                                refine G_iconst 1 dr_cX17_findDepth_255 (by decide +kernel) ?_
                                                refine G_goto 260 dr_cX17_findDepth_256 (by decide +kernel) ?_
                                                refine G_istore (L' := [(11, .int 1), (12, .int g152928), (10, .int g152790), (9, .int g152791), (7, .long gl152792), (5, .long u150259), (4, .int g150076), (2, .long ol147041), (0, .ref q17244), (1, .ref q17245)]) dr_cX17_findDepth_260 (Nat.le_of_ble_eq_true rfl) rfl ?_
                                                obtain ⟨z153005, hz153005⟩ : ∃ z : Int32, z = g152928 + Int32.ofInt 1 := ⟨_, rfl⟩
                                                have ez153005 : z153005.toInt = g152928.toInt + 1 := gI_inc hz153005 (by decide) bg152928' (by decide) (by decide)
                                                have bz153005 : gB z153005 1 2 := ⟨by omega, by omega⟩
                                                refine G_iinc (L' := [(12, .int z153005), (11, .int 1), (10, .int g152790), (9, .int g152791), (7, .long gl152792), (5, .long u150259), (4, .int g150076), (2, .long ol147041), (0, .ref q17244), (1, .ref q17245)]) z153005 1 dr_cX17_findDepth_262 rfl hz153005.symm (Nat.le_of_ble_eq_true rfl) rfl ?_
                                                refine G_goto 199 dr_cX17_findDepth_265 (by decide +kernel) ?_
                                                exact ih199_152929 z153005 1 (gB_w bz153005 (by decide) (by decide)) (gB_w (gBl (show Int32.toInt 1 = 1 by decide)) (by decide) (by decide)) (by have qa0 : Int32.toInt 1 = 1 := (by decide); omega)
                                              · have r153006 : g152929.toInt = 0 := gj_eq hc153003 (show Int32.toInt 0 = 0 by decide)
                                                have bg152929' : gB g152929 0 0 := ⟨by omega, by omega⟩
                                                refine G_aload_n 9 dr_cX17_findDepth_218 rfl ?_
                                                refine G_iload 2 dr_cX17_findDepth_219 rfl ?_
                                                refine Gw_callV (As := [.int g152790]) (gV_ok D I) (cp_6012_Code_get l hl0 D I P17242 F150077 q17245 q147011 q152935 g152790 q147012 p147013 p147014 p152933 p152934 f152948 n152947 q152950 q152959 q152960 p152961 p152962 hm147009 hm152931 hm152949 hm152957 he150082 he152932 r152942 he152958 (gB_w bg152790' (by decide) (by decide)) (gB_w bp152934 (by decide) (by decide)) (by omega) (by omega) (by assumption) (by omega)) dr_cX17_findDepth_221 ⟨wr_10_161, wr_1_15, wr_10_141, by decide, rfl, (Nat.le_of_ble_eq_true rfl), (Nat.le_of_ble_eq_true rfl)⟩ wr_10_139 wr_10_140 hm147009 he150082 rfl (show 0 + 0 ≤ 0 by first | omega | decide) (show 0 + 0 ≤ 0 by first | omega | decide) (Nat.le_of_ble_eq_true rfl) (fun r153010 w153011 dc153007 ds153008 hp153009 => ?_) (fun _ _ _ _ _ z => z.elim)
                                                obtain ⟨rfl, rfl, hdc, hds⟩ := hp153009
                                                change G _ _ _ _ _ _ _ (.ref q152950 :: _) _ _ _
                                                refine G_widen (cs' := 0) (sl' := 0) (by omega) (by omega) ?_
                                                refine G_iload 0 dr_cX17_findDepth_224 rfl ?_
                                                refine Gw_callV (As := [.int g152928]) (gV_ok D I) (cp_3377_Block_way l hl0 D I P17242 F150077 q152950 q152960 g152928 q152959 p152961 p152962 p152976 p152977 p152978 p152979 p152980 p152981 p152982 hm152957 hm152974 he152958 he152975 bp152961 bp152962 bp152976 bp152977 bp152980 bp152981 bp152982) dr_cX17_findDepth_226 ⟨wr_10_170, wr_1_38, wr_10_173, by decide, rfl, (Nat.le_of_ble_eq_true rfl), (Nat.le_of_ble_eq_true rfl)⟩ wr_10_171 wr_10_172 hm152957 he152958 rfl (show 0 + 0 ≤ 0 by first | omega | decide) (show 0 + 0 ≤ 0 by first | omega | decide) (Nat.le_of_ble_eq_true rfl) (fun r153015 w153016 dc153012 ds153013 hp153014 => ?_) (fun _ _ _ _ _ z => z.elim)
                                                obtain ⟨o153017, rfl, rfl, hdc, hds, bo153017⟩ := hp153014
                                                change G _ _ _ _ _ _ _ (.int o153017 :: _) _ _ _
                                                refine G_widen (cs' := 0) (sl' := 0) (by omega) (by omega) ?_
                                                refine G_iload 6 dr_cX17_findDepth_229 rfl ?_
                                                refine G_icmp_eq 259 dr_cX17_findDepth_231 (by decide +kernel) (fun hc153018 => ?_) (fun hc153018 => ?_)
                                                · have r153019 : o153017.toInt = g150076.toInt := gC_eq hc153018
                                                  have bg150076'' : gB g150076 0 39 := ⟨by omega, by omega⟩
                                                  refine G_iconst 0 dr_cX17_findDepth_259 (by decide +kernel) ?_
                                                  refine G_istore (L' := [(11, .int 0), (12, .int g152928), (10, .int g152790), (9, .int g152791), (7, .long gl152792), (5, .long u150259), (4, .int g150076), (2, .long ol147041), (0, .ref q17244), (1, .ref q17245)]) dr_cX17_findDepth_260 (Nat.le_of_ble_eq_true rfl) rfl ?_
                                                  obtain ⟨z153020, hz153020⟩ : ∃ z : Int32, z = g152928 + Int32.ofInt 1 := ⟨_, rfl⟩
                                                  have ez153020 : z153020.toInt = g152928.toInt + 1 := gI_inc hz153020 (by decide) bg152928' (by decide) (by decide)
                                                  have bz153020 : gB z153020 1 2 := ⟨by omega, by omega⟩
                                                  refine G_iinc (L' := [(12, .int z153020), (11, .int 0), (10, .int g152790), (9, .int g152791), (7, .long gl152792), (5, .long u150259), (4, .int g150076), (2, .long ol147041), (0, .ref q17244), (1, .ref q17245)]) z153020 1 dr_cX17_findDepth_262 rfl hz153020.symm (Nat.le_of_ble_eq_true rfl) rfl ?_
                                                  refine G_goto 199 dr_cX17_findDepth_265 (by decide +kernel) ?_
                                                  exact ih199_152929 z153020 0 (gB_w bz153020 (by decide) (by decide)) (gB_w (gBl (show Int32.toInt 0 = 0 by decide)) (by decide) (by decide)) (by have qa0 : Int32.toInt 0 = 0 := (by decide); omega)
                                                · have r153021 : o153017.toInt ≠ g150076.toInt := gC_ne hc153018
                                                  refine G_lload 4 dr_cX17_findDepth_234 rfl ?_
                                                  refine G_aload_n 9 dr_cX17_findDepth_236 rfl ?_
                                                  refine G_iload 2 dr_cX17_findDepth_237 rfl ?_
                                                  refine Gw_callV (As := [.int g152790]) (gV_ok D I) (cp_6012_Code_get l hl0 D I P17242 F150077 q17245 q147011 q152935 g152790 q147012 p147013 p147014 p152933 p152934 f152948 n152947 q152950 q152959 q152960 p152961 p152962 hm147009 hm152931 hm152949 hm152957 he150082 he152932 r152942 he152958 (gB_w bg152790' (by decide) (by decide)) (gB_w bp152934 (by decide) (by decide)) (by omega) (by omega) (by assumption) (by omega)) dr_cX17_findDepth_239 ⟨wr_10_161, wr_1_15, wr_10_141, by decide, rfl, (Nat.le_of_ble_eq_true rfl), (Nat.le_of_ble_eq_true rfl)⟩ wr_10_139 wr_10_140 hm147009 he150082 rfl (show 0 + 0 ≤ 0 by first | omega | decide) (show 0 + 0 ≤ 0 by first | omega | decide) (Nat.le_of_ble_eq_true rfl) (fun r153025 w153026 dc153022 ds153023 hp153024 => ?_) (fun _ _ _ _ _ z => z.elim)
                                                  obtain ⟨rfl, rfl, hdc, hds⟩ := hp153024
                                                  change G _ _ _ _ _ _ _ (.ref q152950 :: _) _ _ _
                                                  refine G_widen (cs' := 0) (sl' := 0) (by omega) (by omega) ?_
                                                  refine G_iload 0 dr_cX17_findDepth_242 rfl ?_
                                                  refine Gw_callV (As := [.int g152928]) (gV_ok D I) (cp_3377_Block_way l hl0 D I P17242 F150077 q152950 q152960 g152928 q152959 p152961 p152962 p152976 p152977 p152978 p152979 p152980 p152981 p152982 hm152957 hm152974 he152958 he152975 bp152961 bp152962 bp152976 bp152977 bp152980 bp152981 bp152982) dr_cX17_findDepth_244 ⟨wr_10_170, wr_1_38, wr_10_173, by decide, rfl, (Nat.le_of_ble_eq_true rfl), (Nat.le_of_ble_eq_true rfl)⟩ wr_10_171 wr_10_172 hm152957 he152958 rfl (show 0 + 0 ≤ 0 by first | omega | decide) (show 0 + 0 ≤ 0 by first | omega | decide) (Nat.le_of_ble_eq_true rfl) (fun r153030 w153031 dc153027 ds153028 hp153029 => ?_) (fun _ _ _ _ _ z => z.elim)
                                                  obtain ⟨o153032, rfl, rfl, hdc, hds, bo153032⟩ := hp153029
                                                  change G _ _ _ _ _ _ _ (.int o153032 :: _) _ _ _
                                                  refine G_widen (cs' := 0) (sl' := 0) (by omega) (by omega) ?_
                                                  refine G_lushr dr_cX17_findDepth_247 (G_namL fun u153033 hu153033 => ?_)
                                                  refine G_lconst 1 dr_cX17_findDepth_248 rfl ?_
                                                  refine G_land dr_cX17_findDepth_249 (G_namL fun u153034 hu153034 => ?_)
                                                  refine G_lconst 0 dr_cX17_findDepth_250 rfl ?_
                                                  refine G_lcmp dr_cX17_findDepth_251 (G_nam fun z153035 hz153035 => ?_)
                                                  have bz153035 : gB z153035 (-1) 1 := gB_cmp hz153035
                                                  refine G_if_eq 259 dr_cX17_findDepth_252 (by decide +kernel) (fun hc153036 => ?_) (fun hc153036 => ?_)
                                                  · have r153037 : z153035.toInt = 0 := gj_eq hc153036 (show Int32.toInt 0 = 0 by decide)
                                                    have bz153035' : gB z153035 0 0 := ⟨by omega, by omega⟩
                                                    have lhc153036 := gC_cmpE hz153035 hc153036
                                                    have zhc153036 := rbit_0 hu153033 hu153034 lhc153036 (by omega) (by omega)
                                                    refine G_iconst 0 dr_cX17_findDepth_259 (by decide +kernel) ?_
                                                    refine G_istore (L' := [(11, .int 0), (12, .int g152928), (10, .int g152790), (9, .int g152791), (7, .long gl152792), (5, .long u150259), (4, .int g150076), (2, .long ol147041), (0, .ref q17244), (1, .ref q17245)]) dr_cX17_findDepth_260 (Nat.le_of_ble_eq_true rfl) rfl ?_
                                                    obtain ⟨z153038, hz153038⟩ : ∃ z : Int32, z = g152928 + Int32.ofInt 1 := ⟨_, rfl⟩
                                                    have ez153038 : z153038.toInt = g152928.toInt + 1 := gI_inc hz153038 (by decide) bg152928' (by decide) (by decide)
                                                    have bz153038 : gB z153038 1 2 := ⟨by omega, by omega⟩
                                                    refine G_iinc (L' := [(12, .int z153038), (11, .int 0), (10, .int g152790), (9, .int g152791), (7, .long gl152792), (5, .long u150259), (4, .int g150076), (2, .long ol147041), (0, .ref q17244), (1, .ref q17245)]) z153038 1 dr_cX17_findDepth_262 rfl hz153038.symm (Nat.le_of_ble_eq_true rfl) rfl ?_
                                                    refine G_goto 199 dr_cX17_findDepth_265 (by decide +kernel) ?_
                                                    exact ih199_152929 z153038 0 (gB_w bz153038 (by decide) (by decide)) (gB_w (gBl (show Int32.toInt 0 = 0 by decide)) (by decide) (by decide)) (by have qa0 : Int32.toInt 0 = 0 := (by decide); omega)
                                                  · have r153039 : z153035.toInt ≠ 0 := gj_neq hc153036 (show Int32.toInt 0 = 0 by decide)
                                                    have lhc153036 := gC_cmpN hz153035 hc153036
                                                    refine G_iconst 1 dr_cX17_findDepth_255 (by decide +kernel) ?_
                                                    refine G_goto 260 dr_cX17_findDepth_256 (by decide +kernel) ?_
                                                    refine G_istore (L' := [(11, .int 1), (12, .int g152928), (10, .int g152790), (9, .int g152791), (7, .long gl152792), (5, .long u150259), (4, .int g150076), (2, .long ol147041), (0, .ref q17244), (1, .ref q17245)]) dr_cX17_findDepth_260 (Nat.le_of_ble_eq_true rfl) rfl ?_
                                                    obtain ⟨z153040, hz153040⟩ : ∃ z : Int32, z = g152928 + Int32.ofInt 1 := ⟨_, rfl⟩
                                                    have ez153040 : z153040.toInt = g152928.toInt + 1 := gI_inc hz153040 (by decide) bg152928' (by decide) (by decide)
                                                    have bz153040 : gB z153040 1 2 := ⟨by omega, by omega⟩
                                                    refine G_iinc (L' := [(12, .int z153040), (11, .int 1), (10, .int g152790), (9, .int g152791), (7, .long gl152792), (5, .long u150259), (4, .int g150076), (2, .long ol147041), (0, .ref q17244), (1, .ref q17245)]) z153040 1 dr_cX17_findDepth_262 rfl hz153040.symm (Nat.le_of_ble_eq_true rfl) rfl ?_
                                                    refine G_goto 199 dr_cX17_findDepth_265 (by decide +kernel) ?_
                                                    exact ih199_152929 z153040 1 (gB_w bz153040 (by decide) (by decide)) (gB_w (gBl (show Int32.toInt 1 = 1 by decide)) (by decide) (by decide)) (by have qa0 : Int32.toInt 1 = 1 := (by decide); omega)
                                        exact hlp199_152929 (((3 : Int) - 0).toNat + 1) 0 0 (gB_w (gBl (show Int32.toInt 0 = 0 by decide)) (by decide) (by decide)) (gB_w (gBl (show Int32.toInt 0 = 0 by decide)) (by decide) (by decide)) (Nat.lt_succ_self _)
                                      · have r153041 : z152813.toInt = 0 := gj_eq hc152814 (show Int32.toInt 0 = 0 by decide)
                                        have bz152813' : gB z152813 0 0 := ⟨by omega, by omega⟩
                                        have lhc152814 := gC_cmpE hz152813 hc152814
                                        refine G_goto 288 dr_cX17_findDepth_190 (by decide +kernel) ?_
                                        obtain ⟨z153042, hz153042⟩ : ∃ z : Int32, z = g152790 + Int32.ofInt 1 := ⟨_, rfl⟩
                                        have ez153042 : z153042.toInt = g152790.toInt + 1 := gI_inc hz153042 (by decide) bg152790' (by decide) (by decide)
                                        have bz153042 : gB z153042 1 1000000 := ⟨by omega, by omega⟩
                                        refine G_iinc (L' := [(10, .int z153042), (9, .int g152791), (7, .long gl152792), (5, .long u150259), (4, .int g150076), (2, .long ol147041), (0, .ref q17244), (1, .ref q17245)]) z153042 0 dr_cX17_findDepth_288 rfl hz153042.symm (Nat.le_of_ble_eq_true rfl) rfl ?_
                                        refine G_goto 158 dr_cX17_findDepth_291 (by decide +kernel) ?_
                                        exact ih158_152794 z153042 g152791 gl152792 (gB_w bz153042 (by decide) (by decide)) bg152791 (rpop_le gl152792) (by omega) (by omega)
                              exact hlp158_152794 (((1000001 : Int) - 0).toNat + 1) 0 0 gl152371 (gB_w (gBl (show Int32.toInt 0 = 0 by decide)) (by decide) (by decide)) (gB_w (gBl (show Int32.toInt 0 = 0 by decide)) (by decide) (by decide)) (rpop_le gl152371) (by have qa0 : Int32.toInt 0 = 0 := (by decide); omega) (Nat.lt_succ_self _)
                        exact hlp147_152372 ((64 - rpop u151698) + ((1 : Int)).toNat + 1) 1 u151698 (gB_w (gBl (show Int32.toInt 1 = 1 by decide)) (by decide) (by decide)) (rpop_le u151698) (Nat.lt_succ_self _)
                      · have r153043 : z151694.toInt = 0 := gj_eq hc151695 (show Int32.toInt 0 = 0 by decide)
                        have bz151694' : gB z151694 0 0 := ⟨by omega, by omega⟩
                        have lhc151695 := gC_cmpE hz151694 hc151695
                        refine G_goto 333 dr_cX17_findDepth_132 (by decide +kernel) ?_
                        obtain ⟨z153044, hz153044⟩ : ∃ z : Int32, z = g150076 + Int32.ofInt 1 := ⟨_, rfl⟩
                        have ez153044 : z153044.toInt = g150076.toInt + 1 := gI_inc hz153044 (by decide) bg150076' (by decide) (by decide)
                        have bz153044 : gB z153044 1 1000000 := ⟨by omega, by omega⟩
                        refine G_iinc (L' := [(4, .int z153044), (9, .int g151684), (7, .long gl151685), (5, .long u150259), (2, .long ol147041), (0, .ref q17244), (1, .ref q17245)]) z153044 3 dr_cX17_findDepth_333 rfl hz153044.symm (Nat.le_of_ble_eq_true rfl) rfl ?_
                        refine G_goto 32 dr_cX17_findDepth_336 (by decide +kernel) ?_
                        refine G_lv (L' := [(4, .int z153044), (2, .long ol147041), (0, .ref q17244), (1, .ref q17245)]) [0, 4, 5, 6] rfl ?_
                        exact ih32_150079 F150077 z153044 (gB_w bz153044 (by decide) (by decide)) hT150078 hs150079 (by omega)
                    · have r153045 : g151684.toInt < p147014.toInt := gC_nle hc151692
                      have bg151684' : gB g151684 0 999999 := ⟨by omega, by omega⟩
                      refine G_lload 2 dr_cX17_findDepth_84 rfl ?_
                      refine G_iload 0 dr_cX17_findDepth_86 rfl ?_
                      refine G_lushr dr_cX17_findDepth_88 (G_namL fun u153046 hu153046 => ?_)
                      refine G_lconst 1 dr_cX17_findDepth_89 rfl ?_
                      refine G_land dr_cX17_findDepth_90 (G_namL fun u153047 hu153047 => ?_)
                      refine G_lconst 0 dr_cX17_findDepth_91 rfl ?_
                      refine G_lcmp dr_cX17_findDepth_92 (G_nam fun z153048 hz153048 => ?_)
                      have bz153048 : gB z153048 (-1) 1 := gB_cmp hz153048
                      refine G_if_eq 119 dr_cX17_findDepth_93 (by decide +kernel) (fun hc153049 => ?_) (fun hc153049 => ?_)
                      · have r153050 : z153048.toInt = 0 := gj_eq hc153049 (show Int32.toInt 0 = 0 by decide)
                        have bz153048' : gB z153048 0 0 := ⟨by omega, by omega⟩
                        have lhc153049 := gC_cmpE hz153048 hc153049
                        obtain ⟨z153051, hz153051⟩ : ∃ z : Int32, z = g151684 + Int32.ofInt 1 := ⟨_, rfl⟩
                        have ez153051 : z153051.toInt = g151684.toInt + 1 := gI_inc hz153051 (by decide) bg151684' (by decide) (by decide)
                        have bz153051 : gB z153051 1 1000000 := ⟨by omega, by omega⟩
                        refine G_iinc (L' := [(9, .int z153051), (7, .long gl151685), (5, .long u150259), (4, .int g150076), (2, .long ol147041), (0, .ref q17244), (1, .ref q17245)]) z153051 0 dr_cX17_findDepth_119 rfl hz153051.symm (Nat.le_of_ble_eq_true rfl) rfl ?_
                        refine G_goto 75 dr_cX17_findDepth_122 (by decide +kernel) ?_
                        exact ih75_151685 z153051 gl151685 (gB_w bz153051 (by decide) (by decide)) (by omega)
                      · have r153052 : z153048.toInt ≠ 0 := gj_neq hc153049 (show Int32.toInt 0 = 0 by decide)
                        have lhc153049 := gC_cmpN hz153048 hc153049
                        refine G_aload_n 6 dr_cX17_findDepth_96 rfl ?_
                        refine G_iload 0 dr_cX17_findDepth_97 rfl ?_
                        have hm153053 : q147011 ∈ P17242 := RS_m hT150078 ht147015 (by decide)
                        obtain ⟨⟨p153055, p153056, q153057, he153054, r153058, r153059, r153060⟩, r153061⟩ := show rk_4 D I γ el F150077 q147011 from RS_o hT150078 ht147015
                        have bp153055 := gB_any p153055
                        have bp153056 : gB p153056 0 1000000 := ⟨by omega, by omega⟩
                        obtain ⟨r153062, r153063, n153069, f153070, r153064, r153065, r153066, r153067, r153068⟩ := rLC_n r153060 (by omega)
                        have hm153071 : q153057 ∈ P17242 := RS_m hT150078 r153062 (by decide)
                        obtain ⟨q153072, hx153073⟩ : ∃ x, x = el q147011 g151684.toInt.toNat := ⟨_, rfl⟩
                        have hx153074 : f153070 g151684.toNatClampNeg = some q153072 := (r153067 _ (show g151684.toInt.toNat < γ 2 q147011 by omega)).trans (by rw [hx153073])
                        have ht153077 : rKd γ q153072 2 := by rw [hx153073]; exact r147026 _ (by omega)
                        have ht153078 : rFm γ q153072 q147011 := by rw [hx153073]; exact (r153061 _ (show g151684.toInt.toNat < γ 2 q147011 by omega)).2.1
                        have hm153079 : q153072 ∈ P17242 := RS_m hT150078 ht153077 (by decide)
                        obtain ⟨q153081, q153082, p153083, p153084, he153080, ht153085, ht153086, ht153087, ht153088, ht153089, bp153083, bp153084, r153090⟩ := show rk_2 γ q153072 (F150077 q153072) from RS_o hT150078 ht153077
                        refine Gw_callV (As := [.int g151684]) (gV_ok D I) (cp_6012_Code_get l hl0 D I P17242 F150077 q17245 q147011 q153057 g151684 q147012 p147013 p147014 p153055 p153056 f153070 n153069 q153072 q153081 q153082 p153083 p153084 hm147009 hm153053 hm153071 hm153079 he150082 he153054 r153064 he153080 (gB_w bg151684' (by decide) (by decide)) (gB_w bp153056 (by decide) (by decide)) (by omega) (by omega) (by assumption) (by omega)) dr_cX17_findDepth_99 ⟨wr_10_161, wr_1_15, wr_10_141, by decide, rfl, (Nat.le_of_ble_eq_true rfl), (Nat.le_of_ble_eq_true rfl)⟩ wr_10_139 wr_10_140 hm147009 he150082 rfl (show 0 + 0 ≤ 0 by first | omega | decide) (show 0 + 0 ≤ 0 by first | omega | decide) (Nat.le_of_ble_eq_true rfl) (fun r153094 w153095 dc153091 ds153092 hp153093 => ?_) (fun _ _ _ _ _ z => z.elim)
                        obtain ⟨rfl, rfl, hdc, hds⟩ := hp153093
                        change G _ _ _ _ _ _ _ (.ref q153072 :: _) _ _ _
                        refine G_widen (cs' := 0) (sl' := 0) (by omega) (by omega) ?_
                        refine G_iload 3 dr_cX17_findDepth_102 rfl ?_
                        refine Gw_callS (As := [.ref q153072, .int g150076]) (gV_ok D I) (ct_5743_SpillForgeModel_leads l hl0 D I γ el P17242 F150077 q153072 g150076 hT150078 ht153077) dr_cX17_findDepth_104 ⟨wr_11_44, wr_1_14, wr_11_46, by decide, rfl, (Nat.le_of_ble_eq_true rfl), (Nat.le_of_ble_eq_true rfl)⟩ wr_11_45 (show 0 + 0 ≤ 0 by first | omega | decide) (show 0 + 0 ≤ 0 by first | omega | decide) (Nat.le_of_ble_eq_true rfl) (fun r153099 w153100 dc153096 ds153097 hp153098 => ?_) (fun _ _ _ _ _ z => z.elim)
                        obtain ⟨o153101, rfl, rfl, hdc, hds, bo153101⟩ := hp153098
                        change G _ _ _ _ _ _ _ (.int o153101 :: _) _ _ _
                        refine G_widen (cs' := 0) (sl' := 0) (by omega) (by omega) ?_
                        refine G_if_eq 119 dr_cX17_findDepth_107 (by decide +kernel) (fun hc153102 => ?_) (fun hc153102 => ?_)
                        · have r153103 : o153101.toInt = 0 := gj_eq hc153102 (show Int32.toInt 0 = 0 by decide)
                          have bo153101' : gB o153101 0 0 := ⟨by omega, by omega⟩
                          obtain ⟨z153104, hz153104⟩ : ∃ z : Int32, z = g151684 + Int32.ofInt 1 := ⟨_, rfl⟩
                          have ez153104 : z153104.toInt = g151684.toInt + 1 := gI_inc hz153104 (by decide) bg151684' (by decide) (by decide)
                          have bz153104 : gB z153104 1 1000000 := ⟨by omega, by omega⟩
                          refine G_iinc (L' := [(9, .int z153104), (7, .long gl151685), (5, .long u150259), (4, .int g150076), (2, .long ol147041), (0, .ref q17244), (1, .ref q17245)]) z153104 0 dr_cX17_findDepth_119 rfl hz153104.symm (Nat.le_of_ble_eq_true rfl) rfl ?_
                          refine G_goto 75 dr_cX17_findDepth_122 (by decide +kernel) ?_
                          exact ih75_151685 z153104 gl151685 (gB_w bz153104 (by decide) (by decide)) (by omega)
                        · have r153105 : o153101.toInt ≠ 0 := gj_neq hc153102 (show Int32.toInt 0 = 0 by decide)
                          have bo153101' : gB o153101 1 1 := ⟨by omega, by omega⟩
                          refine G_lload 1 dr_cX17_findDepth_110 rfl ?_
                          refine G_lconst 1 dr_cX17_findDepth_112 rfl ?_
                          refine G_iload 0 dr_cX17_findDepth_113 rfl ?_
                          refine G_lshl dr_cX17_findDepth_115 (G_namL fun u153106 hu153106 => ?_)
                          have qu153106 : lb_Q u153106 (g151684.toInt % 64 + 1) := lb_Qshl hu153106 (by omega)
                          refine G_lor dr_cX17_findDepth_116 (G_namL fun u153107 hu153107 => ?_)
                          have pmu153107 : rpop gl151685 ≤ rpop u153107 := rpop_or hu153107
                          refine G_lstore (L' := [(7, .long u153107), (9, .int g151684), (5, .long u150259), (4, .int g150076), (2, .long ol147041), (0, .ref q17244), (1, .ref q17245)]) dr_cX17_findDepth_117 (Nat.le_of_ble_eq_true rfl) rfl ?_
                          obtain ⟨z153108, hz153108⟩ : ∃ z : Int32, z = g151684 + Int32.ofInt 1 := ⟨_, rfl⟩
                          have ez153108 : z153108.toInt = g151684.toInt + 1 := gI_inc hz153108 (by decide) bg151684' (by decide) (by decide)
                          have bz153108 : gB z153108 1 1000000 := ⟨by omega, by omega⟩
                          refine G_iinc (L' := [(9, .int z153108), (7, .long u153107), (5, .long u150259), (4, .int g150076), (2, .long ol147041), (0, .ref q17244), (1, .ref q17245)]) z153108 1 dr_cX17_findDepth_119 rfl hz153108.symm (Nat.le_of_ble_eq_true rfl) rfl ?_
                          refine G_goto 75 dr_cX17_findDepth_122 (by decide +kernel) ?_
                          exact ih75_151685 z153108 u153107 (gB_w bz153108 (by decide) (by decide)) (by omega)
                exact hlp75_151685 (((1000001 : Int) - 0).toNat + 1) 0 0 (gB_w (gBl (show Int32.toInt 0 = 0 by decide)) (by decide) (by decide)) (Nat.lt_succ_self _)
              · have r153109 : z150249.toInt = 0 := gj_eq hc150250 (show Int32.toInt 0 = 0 by decide)
                have bz150249' : gB z150249 0 0 := ⟨by omega, by omega⟩
                have lhc150250 := gC_cmpE hz150249 hc150250
                refine G_goto 333 dr_cX17_findDepth_52 (by decide +kernel) ?_
                obtain ⟨z153110, hz153110⟩ : ∃ z : Int32, z = g150076 + Int32.ofInt 1 := ⟨_, rfl⟩
                have ez153110 : z153110.toInt = g150076.toInt + 1 := gI_inc hz153110 (by decide) bg150076' (by decide) (by decide)
                have bz153110 : gB z153110 1 1000000 := ⟨by omega, by omega⟩
                refine G_iinc (L' := [(4, .int z153110), (2, .long ol147041), (0, .ref q17244), (1, .ref q17245)]) z153110 0 dr_cX17_findDepth_333 rfl hz153110.symm (Nat.le_of_ble_eq_true rfl) rfl ?_
                refine G_goto 32 dr_cX17_findDepth_336 (by decide +kernel) ?_
                exact ih32_150079 F150077 z153110 (gB_w bz153110 (by decide) (by decide)) hT150078 hs150079 (by omega)
        exact hlp32_150079 (((1000001 : Int) - 0).toNat + 1) F147003 0 (gB_w (gBl (show Int32.toInt 0 = 0 by decide)) (by decide) (by decide)) hT147004 hs147005 (Nat.lt_succ_self _)
      · have r153111 : g147002.toInt < p147014.toInt := gC_nle hc147034
        have bg147002' : gB g147002 0 999999 := ⟨by omega, by omega⟩
        have bp147014' : gB p147014 1 1000000 := ⟨by omega, by omega⟩
        refine G_aload_n 1 dr_cX17_findDepth_10 rfl ?_
        have hm153112 : q17244 ∈ P17242 := RS_m hT147004 htq17244 (by decide)
        obtain ⟨q153114, q153115, p153116, p153117, p153118, p153119, p153120, p153121, p153122, p153123, p153124, p153125, p153126, p153127, p153128, p153129, p153130, he153113, hB153157, ht153131, ht153132, ht153133, ht153134, ht153135, ht153136, ht153137, ht153138, ht153139, ht153140, ht153141, ht153142, ht153143, ht153144, ht153145, ht153146, ht153147, ht153148, ht153149, ht153150, ht153151, ht153152, ht153153, ht153154, hB153158⟩ := show rk_10 γ (F147003 q17244) from RS_o hT147004 htq17244
        refine Gp_get 4 hm153112 he153113 dr_cX17_findDepth_11 (gk_X17 D I) (Nat.le_of_ble_eq_true rfl) wr_7_78 rfl ?_
        refine G_iload_n 0 dr_cX17_findDepth_14 rfl ?_
        refine G_iconst 0 dr_cX17_findDepth_15 (by decide +kernel) ?_
        have hm153159 : (γ 9 4) ∈ P17242 := RS_m hT147004 ht153137 (by decide)
        obtain ⟨f153161, he153160⟩ := show rk_16 I (F147003 (γ 9 4)) from RS_o hT147004 ht153137
        refine Gp_iast 0 hm153159 he153160 dr_cX17_findDepth_16 rfl (gB_inr (by omega) (by omega)) (fun F153162 e153163 n153164 => ?_)
        obtain ⟨f153165, hf153165⟩ : ∃ z, z = upd f153161 g147002.toNatClampNeg 0 := ⟨_, rfl⟩
        rw [← hf153165] at e153163
        have he153166 : F153162 q17245 = .inr (18, [.ref q147011, .ref q147012, .int p147013, .int p147014]) := (n153164 q17245 (rn_oa he147010 he153160)).trans he147010
        have he153167 : F153162 q17244 = .inr (22, [.ref (γ 9 0), .ref (γ 9 1), .ref (γ 9 2), .ref (γ 9 3), .ref (γ 9 4), .ref (γ 9 5), .ref (γ 9 6), .ref (γ 9 7), .ref (γ 9 8), .int p153116, .int p153117, .int p153118, .int p153119, .int p153120, .int p153121, .ref (γ 9 15), .ref (γ 9 16), .ref (γ 9 17), .ref (γ 9 18), .ref (γ 9 19), .ref (γ 9 20), .ref (γ 9 21), .ref (γ 9 22), .int p153122, .int p153123, .int p153124, .int p153125, .int p153126, .ref q153114, .ref (γ 9 29), .int p153127, .ref (γ 9 31), .int p153128, .int p153129, .int p153130, .ref q153115]) := (n153164 q17244 (rn_oa he153113 he153160)).trans he153113
        have he153168 : F153162 (γ 9 4) = .inl (I .int, 40, .inl f153165) := e153163
        have hs153169 : rStr γ F17243 F153162 := rStr_put hs147005 n153164 ht153137 (by decide)
        obtain ⟨z153170, hz153170⟩ : ∃ z : Int32, z = g147002 + Int32.ofInt 1 := ⟨_, rfl⟩
        have ez153170 : z153170.toInt = g147002.toInt + 1 := gI_inc hz153170 (by decide) bg147002' (by decide) (by decide)
        have bz153170 : gB z153170 1 1000000 := ⟨by omega, by omega⟩
        refine G_iinc (L' := [(2, .int z153170), (0, .ref q17244), (1, .ref q17245)]) z153170 0 dr_cX17_findDepth_17 rfl hz153170.symm (Nat.le_of_ble_eq_true rfl) rfl ?_
        refine G_goto 2 dr_cX17_findDepth_20 (by decide +kernel) ?_
        have hT153171 : RS D I P17242 F153162 γ el := RS_set hT147004 n153164 ht153137 (by decide) ⟨f153165, he153168⟩
        exact ih2_147005 F153162 z153170 (gB_w bz153170 (by decide) (by decide)) hT153171 hs153169 (by omega)
  exact hlp2_147005 (((1000001 : Int) - 0).toNat + 1) F17243 0 (gB_w (gBl (show Int32.toInt 0 = 0 by decide)) (by decide) (by decide)) hT (rStr_rf (γ := γ) (F := F17243)) (Nat.lt_succ_self _)
