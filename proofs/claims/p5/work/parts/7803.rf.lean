theorem dr_cX17_mayMerge_0 : decode cX17_mayMerge 0 = .ok (.iload_n 1, 1) := by decide +kernel
theorem dr_cX17_mayMerge_1 : decode cX17_mayMerge 1 = .ok (.bipush 100, 2) := by decide +kernel
theorem dr_cX17_mayMerge_3 : decode cX17_mayMerge 3 = .ok (.if_icmp .ge 22, 3) := by decide +kernel
theorem dr_cX17_mayMerge_25 : decode cX17_mayMerge 25 = .ok (.iconst 0, 1) := by decide +kernel
theorem dr_cX17_mayMerge_26 : decode cX17_mayMerge 26 = .ok (.ireturn, 1) := by decide +kernel
theorem dr_cX17_mayMerge_6 : decode cX17_mayMerge 6 = .ok (.iload_n 2, 1) := by decide +kernel
theorem dr_cX17_mayMerge_7 : decode cX17_mayMerge 7 = .ok (.bipush 100, 2) := by decide +kernel
theorem dr_cX17_mayMerge_9 : decode cX17_mayMerge 9 = .ok (.if_icmp .ge 16, 3) := by decide +kernel
theorem dr_cX17_mayMerge_12 : decode cX17_mayMerge 12 = .ok (.aload_n 0, 1) := by decide +kernel
theorem dr_cX17_mayMerge_13 : decode cX17_mayMerge 13 = .ok (.getfield 135, 3) := by decide +kernel
theorem wr_7_75 : (Jvm.Cond.fieldLink "SpillForgeModel" (135 : Nat) "SpillForgeModel" "joined" "[[J") ∈ gw := gw_7 75 rfl rfl
theorem dr_cX17_mayMerge_16 : decode cX17_mayMerge 16 = .ok (.iload_n 1, 1) := by decide +kernel
theorem dr_cX17_mayMerge_17 : decode cX17_mayMerge 17 = .ok (.aaload, 1) := by decide +kernel
theorem dr_cX17_mayMerge_18 : decode cX17_mayMerge 18 = .ok (.iload_n 2, 1) := by decide +kernel
theorem dr_cX17_mayMerge_19 : decode cX17_mayMerge 19 = .ok (.invokestatic 145, 3) := by decide +kernel
theorem wr_10_199 : (Jvm.Cond.methodLink "SpillForgeModel" (145 : Nat) ({ cls := "SpillForgeModel", name := "has", desc := "([JI)Z" } : Jvm.MethodName)) ∈ gw := gw_10 199 rfl rfl
theorem wr_10_201 : (Jvm.Cond.code ({ cls := "SpillForgeModel", name := "has", desc := "([JI)Z" } : Jvm.MethodName) prog_14_method_2_code (2 : Nat) (Option.some Jvm.ClassFile.FieldType.boolean)) ∈ gw := gw_10 201 rfl rfl
theorem wr_10_200 : (Jvm.Cond.static ({ cls := "SpillForgeModel", name := "has", desc := "([JI)Z" } : Jvm.MethodName)) ∈ gw := gw_10 200 rfl rfl
theorem dr_cX17_mayMerge_22 : decode cX17_mayMerge 22 = .ok (.ifCond .eq 5, 3) := by decide +kernel
theorem dr_cX17_mayMerge_27 : decode cX17_mayMerge 27 = .ok (.iconst 0, 1) := by decide +kernel
theorem dr_cX17_mayMerge_28 : decode cX17_mayMerge 28 = .ok (.istore 4, 2) := by decide +kernel
theorem dr_cX17_mayMerge_30 : decode cX17_mayMerge 30 = .ok (.iconst 0, 1) := by decide +kernel
theorem dr_cX17_mayMerge_31 : decode cX17_mayMerge 31 = .ok (.istore 5, 2) := by decide +kernel
theorem dr_cX17_mayMerge_33 : decode cX17_mayMerge 33 = .ok (.iload 5, 2) := by decide +kernel
theorem dr_cX17_mayMerge_35 : decode cX17_mayMerge 35 = .ok (.sipush 2000, 3) := by decide +kernel
theorem dr_cX17_mayMerge_38 : decode cX17_mayMerge 38 = .ok (.if_icmp .ge 88, 3) := by decide +kernel
theorem dr_cX17_mayMerge_126 : decode cX17_mayMerge 126 = .ok (.iload 4, 2) := by decide +kernel
theorem dr_cX17_mayMerge_128 : decode cX17_mayMerge 128 = .ok (.iload_n 3, 1) := by decide +kernel
theorem dr_cX17_mayMerge_129 : decode cX17_mayMerge 129 = .ok (.if_icmp .ge 7, 3) := by decide +kernel
theorem dr_cX17_mayMerge_136 : decode cX17_mayMerge 136 = .ok (.iconst 0, 1) := by decide +kernel
theorem dr_cX17_mayMerge_137 : decode cX17_mayMerge 137 = .ok (.ireturn, 1) := by decide +kernel
theorem dr_cX17_mayMerge_132 : decode cX17_mayMerge 132 = .ok (.iconst 1, 1) := by decide +kernel
theorem dr_cX17_mayMerge_133 : decode cX17_mayMerge 133 = .ok (.goto 4, 3) := by decide +kernel
theorem dr_cX17_mayMerge_41 : decode cX17_mayMerge 41 = .ok (.aload_n 0, 1) := by decide +kernel
theorem dr_cX17_mayMerge_42 : decode cX17_mayMerge 42 = .ok (.getfield 135, 3) := by decide +kernel
theorem dr_cX17_mayMerge_45 : decode cX17_mayMerge 45 = .ok (.iload_n 1, 1) := by decide +kernel
theorem dr_cX17_mayMerge_46 : decode cX17_mayMerge 46 = .ok (.aaload, 1) := by decide +kernel
theorem dr_cX17_mayMerge_47 : decode cX17_mayMerge 47 = .ok (.iload 5, 2) := by decide +kernel
theorem dr_cX17_mayMerge_49 : decode cX17_mayMerge 49 = .ok (.invokestatic 145, 3) := by decide +kernel
theorem dr_cX17_mayMerge_52 : decode cX17_mayMerge 52 = .ok (.istore 6, 2) := by decide +kernel
theorem dr_cX17_mayMerge_54 : decode cX17_mayMerge 54 = .ok (.aload_n 0, 1) := by decide +kernel
theorem dr_cX17_mayMerge_55 : decode cX17_mayMerge 55 = .ok (.getfield 135, 3) := by decide +kernel
theorem dr_cX17_mayMerge_58 : decode cX17_mayMerge 58 = .ok (.iload_n 2, 1) := by decide +kernel
theorem dr_cX17_mayMerge_59 : decode cX17_mayMerge 59 = .ok (.aaload, 1) := by decide +kernel
theorem dr_cX17_mayMerge_60 : decode cX17_mayMerge 60 = .ok (.iload 5, 2) := by decide +kernel
theorem dr_cX17_mayMerge_62 : decode cX17_mayMerge 62 = .ok (.invokestatic 145, 3) := by decide +kernel
theorem dr_cX17_mayMerge_65 : decode cX17_mayMerge 65 = .ok (.istore 7, 2) := by decide +kernel
theorem dr_cX17_mayMerge_67 : decode cX17_mayMerge 67 = .ok (.iload 6, 2) := by decide +kernel
theorem dr_cX17_mayMerge_69 : decode cX17_mayMerge 69 = .ok (.ifCond .ne 11, 3) := by decide +kernel
theorem dr_cX17_mayMerge_72 : decode cX17_mayMerge 72 = .ok (.iload 7, 2) := by decide +kernel
theorem dr_cX17_mayMerge_74 : decode cX17_mayMerge 74 = .ok (.ifCond .ne 6, 3) := by decide +kernel
theorem dr_cX17_mayMerge_77 : decode cX17_mayMerge 77 = .ok (.goto 43, 3) := by decide +kernel
theorem dr_cX17_mayMerge_120 : decode cX17_mayMerge 120 = .ok (.iinc 5 1, 3) := by decide +kernel
theorem dr_cX17_mayMerge_123 : decode cX17_mayMerge 123 = .ok (.goto (-90), 3) := by decide +kernel
theorem dr_cX17_mayMerge_80 : decode cX17_mayMerge 80 = .ok (.iload 4, 2) := by decide +kernel
theorem dr_cX17_mayMerge_82 : decode cX17_mayMerge 82 = .ok (.aload_n 0, 1) := by decide +kernel
theorem dr_cX17_mayMerge_83 : decode cX17_mayMerge 83 = .ok (.getfield 135, 3) := by decide +kernel
theorem dr_cX17_mayMerge_86 : decode cX17_mayMerge 86 = .ok (.iload 5, 2) := by decide +kernel
theorem dr_cX17_mayMerge_88 : decode cX17_mayMerge 88 = .ok (.aaload, 1) := by decide +kernel
theorem dr_cX17_mayMerge_89 : decode cX17_mayMerge 89 = .ok (.invokestatic 202, 3) := by decide +kernel
theorem wr_11_12 : (Jvm.Cond.methodLink "SpillForgeModel" (202 : Nat) ({ cls := "SpillForgeModel", name := "count", desc := "([J)I" } : Jvm.MethodName)) ∈ gw := gw_11 12 rfl rfl
theorem wr_11_14 : (Jvm.Cond.code ({ cls := "SpillForgeModel", name := "count", desc := "([J)I" } : Jvm.MethodName) prog_14_method_5_code (3 : Nat) (Option.some Jvm.ClassFile.FieldType.int)) ∈ gw := gw_11 14 rfl rfl
theorem wr_11_13 : (Jvm.Cond.static ({ cls := "SpillForgeModel", name := "count", desc := "([J)I" } : Jvm.MethodName)) ∈ gw := gw_11 13 rfl rfl
theorem dr_cX17_mayMerge_92 : decode cX17_mayMerge 92 = .ok (.iload 6, 2) := by decide +kernel
theorem dr_cX17_mayMerge_94 : decode cX17_mayMerge 94 = .ok (.ifCond .eq 12, 3) := by decide +kernel
theorem dr_cX17_mayMerge_106 : decode cX17_mayMerge 106 = .ok (.iconst 0, 1) := by decide +kernel
theorem dr_cX17_mayMerge_107 : decode cX17_mayMerge 107 = .ok (.isub, 1) := by decide +kernel
theorem dr_cX17_mayMerge_108 : decode cX17_mayMerge 108 = .ok (.iload_n 3, 1) := by decide +kernel
theorem dr_cX17_mayMerge_109 : decode cX17_mayMerge 109 = .ok (.if_icmp .lt 7, 3) := by decide +kernel
theorem dr_cX17_mayMerge_116 : decode cX17_mayMerge 116 = .ok (.iconst 0, 1) := by decide +kernel
theorem dr_cX17_mayMerge_117 : decode cX17_mayMerge 117 = .ok (.iadd, 1) := by decide +kernel
theorem dr_cX17_mayMerge_118 : decode cX17_mayMerge 118 = .ok (.istore 4, 2) := by decide +kernel
theorem dr_cX17_mayMerge_112 : decode cX17_mayMerge 112 = .ok (.iconst 1, 1) := by decide +kernel
theorem dr_cX17_mayMerge_113 : decode cX17_mayMerge 113 = .ok (.goto 4, 3) := by decide +kernel
theorem dr_cX17_mayMerge_97 : decode cX17_mayMerge 97 = .ok (.iload 7, 2) := by decide +kernel
theorem dr_cX17_mayMerge_99 : decode cX17_mayMerge 99 = .ok (.ifCond .eq 7, 3) := by decide +kernel
theorem dr_cX17_mayMerge_102 : decode cX17_mayMerge 102 = .ok (.iconst 1, 1) := by decide +kernel
theorem dr_cX17_mayMerge_103 : decode cX17_mayMerge 103 = .ok (.goto 4, 3) := by decide +kernel
theorem dr_cX17_next_0 : decode cX17_next 0 = .ok (.iconst 0, 1) := by decide +kernel
theorem dr_cX17_next_1 : decode cX17_next 1 = .ok (.istore_n 2, 1) := by decide +kernel
theorem dr_cX17_next_2 : decode cX17_next 2 = .ok (.iload_n 2, 1) := by decide +kernel
theorem dr_cX17_next_3 : decode cX17_next 3 = .ok (.sipush 2000, 3) := by decide +kernel
theorem dr_cX17_next_6 : decode cX17_next 6 = .ok (.if_icmp .ge 30, 3) := by decide +kernel
theorem dr_cX17_next_36 : decode cX17_next 36 = .ok (.iconst (-1), 1) := by decide +kernel
theorem dr_cX17_next_37 : decode cX17_next 37 = .ok (.istore_n 2, 1) := by decide +kernel
theorem dr_cX17_next_38 : decode cX17_next 38 = .ok (.iconst 0, 1) := by decide +kernel
theorem dr_cX17_next_39 : decode cX17_next 39 = .ok (.istore_n 3, 1) := by decide +kernel
theorem dr_cX17_next_40 : decode cX17_next 40 = .ok (.iload_n 3, 1) := by decide +kernel
theorem dr_cX17_next_41 : decode cX17_next 41 = .ok (.sipush 2000, 3) := by decide +kernel
theorem dr_cX17_next_44 : decode cX17_next 44 = .ok (.if_icmp .ge 127, 3) := by decide +kernel
theorem dr_cX17_next_171 : decode cX17_next 171 = .ok (.iload_n 2, 1) := by decide +kernel
theorem dr_cX17_next_172 : decode cX17_next 172 = .ok (.ireturn, 1) := by decide +kernel
theorem dr_cX17_next_47 : decode cX17_next 47 = .ok (.aload_n 0, 1) := by decide +kernel
theorem dr_cX17_next_48 : decode cX17_next 48 = .ok (.getfield 206, 3) := by decide +kernel
theorem wr_7_92 : (Jvm.Cond.fieldLink "SpillForgeModel" (206 : Nat) "SpillForgeModel" "there" "[Z") ∈ gw := gw_7 92 rfl rfl
theorem dr_cX17_next_51 : decode cX17_next 51 = .ok (.iload_n 3, 1) := by decide +kernel
theorem dr_cX17_next_52 : decode cX17_next 52 = .ok (.baload, 1) := by decide +kernel
theorem dr_cX17_next_53 : decode cX17_next 53 = .ok (.ifCond .ne 6, 3) := by decide +kernel
theorem dr_cX17_next_59 : decode cX17_next 59 = .ok (.iload_n 2, 1) := by decide +kernel
theorem dr_cX17_next_60 : decode cX17_next 60 = .ok (.ifCond .ge 8, 3) := by decide +kernel
theorem dr_cX17_next_68 : decode cX17_next 68 = .ok (.iload_n 3, 1) := by decide +kernel
theorem dr_cX17_next_69 : decode cX17_next 69 = .ok (.bipush 100, 2) := by decide +kernel
theorem dr_cX17_next_71 : decode cX17_next 71 = .ok (.if_icmp .lt 7, 3) := by decide +kernel
theorem dr_cX17_next_78 : decode cX17_next 78 = .ok (.iconst 0, 1) := by decide +kernel
theorem dr_cX17_next_79 : decode cX17_next 79 = .ok (.istore 4, 2) := by decide +kernel
theorem dr_cX17_next_81 : decode cX17_next 81 = .ok (.iload_n 2, 1) := by decide +kernel
theorem dr_cX17_next_82 : decode cX17_next 82 = .ok (.bipush 100, 2) := by decide +kernel
theorem dr_cX17_next_84 : decode cX17_next 84 = .ok (.if_icmp .lt 7, 3) := by decide +kernel
theorem dr_cX17_next_91 : decode cX17_next 91 = .ok (.iconst 0, 1) := by decide +kernel
theorem dr_cX17_next_92 : decode cX17_next 92 = .ok (.istore 5, 2) := by decide +kernel
theorem dr_cX17_next_94 : decode cX17_next 94 = .ok (.iload 4, 2) := by decide +kernel
theorem dr_cX17_next_96 : decode cX17_next 96 = .ok (.ifCond .eq 11, 3) := by decide +kernel
theorem dr_cX17_next_107 : decode cX17_next 107 = .ok (.aload_n 0, 1) := by decide +kernel
theorem dr_cX17_next_108 : decode cX17_next 108 = .ok (.getfield 174, 3) := by decide +kernel
theorem wr_7_79 : (Jvm.Cond.fieldLink "SpillForgeModel" (174 : Nat) "SpillForgeModel" "weight" "[I") ∈ gw := gw_7 79 rfl rfl
theorem dr_cX17_next_111 : decode cX17_next 111 = .ok (.iload_n 3, 1) := by decide +kernel
theorem dr_cX17_next_112 : decode cX17_next 112 = .ok (.iaload, 1) := by decide +kernel
theorem dr_cX17_next_113 : decode cX17_next 113 = .ok (.i2l, 1) := by decide +kernel
theorem dr_cX17_next_114 : decode cX17_next 114 = .ok (.aload_n 0, 1) := by decide +kernel
theorem dr_cX17_next_115 : decode cX17_next 115 = .ok (.getfield 209, 3) := by decide +kernel
theorem wr_7_90 : (Jvm.Cond.fieldLink "SpillForgeModel" (209 : Nat) "SpillForgeModel" "left" "[I") ∈ gw := gw_7 90 rfl rfl
theorem dr_cX17_next_118 : decode cX17_next 118 = .ok (.iload_n 2, 1) := by decide +kernel
theorem dr_cX17_next_119 : decode cX17_next 119 = .ok (.iaload, 1) := by decide +kernel
theorem dr_cX17_next_120 : decode cX17_next 120 = .ok (.i2l, 1) := by decide +kernel
theorem dr_cX17_next_121 : decode cX17_next 121 = .ok (.lmul, 1) := by decide +kernel
theorem dr_cX17_next_122 : decode cX17_next 122 = .ok (.aload_n 0, 1) := by decide +kernel
theorem dr_cX17_next_123 : decode cX17_next 123 = .ok (.getfield 174, 3) := by decide +kernel
theorem dr_cX17_next_126 : decode cX17_next 126 = .ok (.iload_n 2, 1) := by decide +kernel
theorem dr_cX17_next_127 : decode cX17_next 127 = .ok (.iaload, 1) := by decide +kernel
theorem dr_cX17_next_128 : decode cX17_next 128 = .ok (.i2l, 1) := by decide +kernel
theorem dr_cX17_next_129 : decode cX17_next 129 = .ok (.aload_n 0, 1) := by decide +kernel
theorem dr_cX17_next_130 : decode cX17_next 130 = .ok (.getfield 209, 3) := by decide +kernel
theorem dr_cX17_next_133 : decode cX17_next 133 = .ok (.iload_n 3, 1) := by decide +kernel
theorem dr_cX17_next_134 : decode cX17_next 134 = .ok (.iaload, 1) := by decide +kernel
theorem dr_cX17_next_135 : decode cX17_next 135 = .ok (.i2l, 1) := by decide +kernel
theorem dr_cX17_next_136 : decode cX17_next 136 = .ok (.lmul, 1) := by decide +kernel
theorem dr_cX17_next_137 : decode cX17_next 137 = .ok (.lcmp, 1) := by decide +kernel
theorem dr_cX17_next_138 : decode cX17_next 138 = .ok (.ifCond .ge 7, 3) := by decide +kernel
theorem dr_cX17_next_145 : decode cX17_next 145 = .ok (.iconst 0, 1) := by decide +kernel
theorem dr_cX17_next_146 : decode cX17_next 146 = .ok (.istore 6, 2) := by decide +kernel
theorem dr_cX17_next_148 : decode cX17_next 148 = .ok (.iload 4, 2) := by decide +kernel
theorem dr_cX17_next_150 : decode cX17_next 150 = .ok (.ifCond .ne 8, 3) := by decide +kernel
theorem dr_cX17_next_153 : decode cX17_next 153 = .ok (.iload 5, 2) := by decide +kernel
theorem dr_cX17_next_155 : decode cX17_next 155 = .ok (.ifCond .ne 8, 3) := by decide +kernel
theorem dr_cX17_next_158 : decode cX17_next 158 = .ok (.iload 6, 2) := by decide +kernel
theorem dr_cX17_next_160 : decode cX17_next 160 = .ok (.ifCond .eq 5, 3) := by decide +kernel
theorem dr_cX17_next_165 : decode cX17_next 165 = .ok (.iinc 3 1, 3) := by decide +kernel
theorem dr_cX17_next_168 : decode cX17_next 168 = .ok (.goto (-128), 3) := by decide +kernel
theorem dr_cX17_next_141 : decode cX17_next 141 = .ok (.iconst 1, 1) := by decide +kernel
theorem dr_cX17_next_142 : decode cX17_next 142 = .ok (.goto 4, 3) := by decide +kernel
theorem dr_cX17_next_163 : decode cX17_next 163 = .ok (.iload_n 3, 1) := by decide +kernel
theorem dr_cX17_next_164 : decode cX17_next 164 = .ok (.istore_n 2, 1) := by decide +kernel
theorem dr_cX17_next_87 : decode cX17_next 87 = .ok (.iconst 1, 1) := by decide +kernel
theorem dr_cX17_next_88 : decode cX17_next 88 = .ok (.goto 4, 3) := by decide +kernel
theorem dr_cX17_next_74 : decode cX17_next 74 = .ok (.iconst 1, 1) := by decide +kernel
theorem dr_cX17_next_75 : decode cX17_next 75 = .ok (.goto 4, 3) := by decide +kernel
theorem dr_cX17_next_99 : decode cX17_next 99 = .ok (.iload 5, 2) := by decide +kernel
theorem dr_cX17_next_101 : decode cX17_next 101 = .ok (.ifCond .ne 6, 3) := by decide +kernel
theorem dr_cX17_next_104 : decode cX17_next 104 = .ok (.goto 61, 3) := by decide +kernel
theorem dr_cX17_next_63 : decode cX17_next 63 = .ok (.iload_n 3, 1) := by decide +kernel
theorem dr_cX17_next_64 : decode cX17_next 64 = .ok (.istore_n 2, 1) := by decide +kernel
theorem dr_cX17_next_65 : decode cX17_next 65 = .ok (.goto 100, 3) := by decide +kernel
theorem dr_cX17_next_56 : decode cX17_next 56 = .ok (.goto 109, 3) := by decide +kernel
theorem dr_cX17_next_9 : decode cX17_next 9 = .ok (.aload_n 0, 1) := by decide +kernel
theorem dr_cX17_next_10 : decode cX17_next 10 = .ok (.getfield 206, 3) := by decide +kernel
theorem dr_cX17_next_13 : decode cX17_next 13 = .ok (.iload_n 2, 1) := by decide +kernel
theorem dr_cX17_next_14 : decode cX17_next 14 = .ok (.baload, 1) := by decide +kernel
theorem dr_cX17_next_15 : decode cX17_next 15 = .ok (.ifCond .eq 15, 3) := by decide +kernel
theorem dr_cX17_next_30 : decode cX17_next 30 = .ok (.iinc 2 1, 3) := by decide +kernel
theorem dr_cX17_next_33 : decode cX17_next 33 = .ok (.goto (-31), 3) := by decide +kernel
theorem dr_cX17_next_18 : decode cX17_next 18 = .ok (.aload_n 0, 1) := by decide +kernel
theorem dr_cX17_next_19 : decode cX17_next 19 = .ok (.getfield 209, 3) := by decide +kernel
theorem dr_cX17_next_22 : decode cX17_next 22 = .ok (.iload_n 2, 1) := by decide +kernel
theorem dr_cX17_next_23 : decode cX17_next 23 = .ok (.iaload, 1) := by decide +kernel
theorem dr_cX17_next_24 : decode cX17_next 24 = .ok (.iload_n 1, 1) := by decide +kernel
theorem dr_cX17_next_25 : decode cX17_next 25 = .ok (.if_icmp .ge 5, 3) := by decide +kernel
theorem dr_cX17_next_28 : decode cX17_next 28 = .ok (.iload_n 2, 1) := by decide +kernel
theorem dr_cX17_next_29 : decode cX17_next 29 = .ok (.ireturn, 1) := by decide +kernel