theorem dr_cX17_mayMerge_0 : decode cX17_mayMerge 0 = .ok (.iload_n 1, 1) := by decide +kernel
theorem dr_cX17_mayMerge_1 : decode cX17_mayMerge 1 = .ok (.bipush 100, 2) := by decide +kernel
theorem dr_cX17_mayMerge_3 : decode cX17_mayMerge 3 = .ok (.if_icmp .ge 22, 3) := by decide +kernel
theorem dr_cX17_mayMerge_25 : decode cX17_mayMerge 25 = .ok (.iconst 0, 1) := by decide +kernel
theorem dr_cX17_mayMerge_26 : decode cX17_mayMerge 26 = .ok (.ireturn, 1) := by decide +kernel
theorem dr_cX17_mayMerge_6 : decode cX17_mayMerge 6 = .ok (.iload_n 2, 1) := by decide +kernel
theorem dr_cX17_mayMerge_7 : decode cX17_mayMerge 7 = .ok (.bipush 100, 2) := by decide +kernel
theorem dr_cX17_mayMerge_9 : decode cX17_mayMerge 9 = .ok (.if_icmp .ge 16, 3) := by decide +kernel
theorem dr_cX17_mayMerge_12 : decode cX17_mayMerge 12 = .ok (.aload_n 0, 1) := by decide +kernel
theorem dr_cX17_mayMerge_13 : decode cX17_mayMerge 13 = .ok (.getfield 135, 3) := by decide +kernel
theorem wr_7_75 : (Jvm.Cond.fieldLink "SpillForgeModel" (135 : Nat) "SpillForgeModel" "joined" "[[J") ∈ gw := gw_7 75 rfl rfl
theorem dr_cX17_mayMerge_16 : decode cX17_mayMerge 16 = .ok (.iload_n 1, 1) := by decide +kernel
theorem dr_cX17_mayMerge_17 : decode cX17_mayMerge 17 = .ok (.aaload, 1) := by decide +kernel
theorem dr_cX17_mayMerge_18 : decode cX17_mayMerge 18 = .ok (.iload_n 2, 1) := by decide +kernel
theorem dr_cX17_mayMerge_19 : decode cX17_mayMerge 19 = .ok (.invokestatic 145, 3) := by decide +kernel
theorem wr_10_203 : (Jvm.Cond.methodLink "SpillForgeModel" (145 : Nat) ({ cls := "SpillForgeModel", name := "has", desc := "([JI)Z" } : Jvm.MethodName)) ∈ gw := gw_10 203 rfl rfl
theorem wr_10_205 : (Jvm.Cond.code ({ cls := "SpillForgeModel", name := "has", desc := "([JI)Z" } : Jvm.MethodName) prog_14_method_2_code (2 : Nat) (Option.some Jvm.ClassFile.FieldType.boolean)) ∈ gw := gw_10 205 rfl rfl
theorem wr_10_204 : (Jvm.Cond.static ({ cls := "SpillForgeModel", name := "has", desc := "([JI)Z" } : Jvm.MethodName)) ∈ gw := gw_10 204 rfl rfl
theorem dr_cX17_mayMerge_22 : decode cX17_mayMerge 22 = .ok (.ifCond .eq 5, 3) := by decide +kernel
theorem dr_cX17_mayMerge_27 : decode cX17_mayMerge 27 = .ok (.iconst 0, 1) := by decide +kernel
theorem dr_cX17_mayMerge_28 : decode cX17_mayMerge 28 = .ok (.istore 4, 2) := by decide +kernel
theorem dr_cX17_mayMerge_30 : decode cX17_mayMerge 30 = .ok (.iconst 0, 1) := by decide +kernel
theorem dr_cX17_mayMerge_31 : decode cX17_mayMerge 31 = .ok (.istore 5, 2) := by decide +kernel
theorem dr_cX17_mayMerge_33 : decode cX17_mayMerge 33 = .ok (.iload 5, 2) := by decide +kernel
theorem dr_cX17_mayMerge_35 : decode cX17_mayMerge 35 = .ok (.sipush 2000, 3) := by decide +kernel
theorem dr_cX17_mayMerge_38 : decode cX17_mayMerge 38 = .ok (.if_icmp .ge 88, 3) := by decide +kernel
theorem dr_cX17_mayMerge_126 : decode cX17_mayMerge 126 = .ok (.iload 4, 2) := by decide +kernel
theorem dr_cX17_mayMerge_128 : decode cX17_mayMerge 128 = .ok (.iload_n 3, 1) := by decide +kernel
theorem dr_cX17_mayMerge_129 : decode cX17_mayMerge 129 = .ok (.if_icmp .ge 7, 3) := by decide +kernel
theorem dr_cX17_mayMerge_136 : decode cX17_mayMerge 136 = .ok (.iconst 0, 1) := by decide +kernel
theorem dr_cX17_mayMerge_137 : decode cX17_mayMerge 137 = .ok (.ireturn, 1) := by decide +kernel
theorem dr_cX17_mayMerge_132 : decode cX17_mayMerge 132 = .ok (.iconst 1, 1) := by decide +kernel
theorem dr_cX17_mayMerge_133 : decode cX17_mayMerge 133 = .ok (.goto 4, 3) := by decide +kernel
theorem dr_cX17_mayMerge_41 : decode cX17_mayMerge 41 = .ok (.aload_n 0, 1) := by decide +kernel
theorem dr_cX17_mayMerge_42 : decode cX17_mayMerge 42 = .ok (.getfield 135, 3) := by decide +kernel
theorem dr_cX17_mayMerge_45 : decode cX17_mayMerge 45 = .ok (.iload_n 1, 1) := by decide +kernel
theorem dr_cX17_mayMerge_46 : decode cX17_mayMerge 46 = .ok (.aaload, 1) := by decide +kernel
theorem dr_cX17_mayMerge_47 : decode cX17_mayMerge 47 = .ok (.iload 5, 2) := by decide +kernel
theorem dr_cX17_mayMerge_49 : decode cX17_mayMerge 49 = .ok (.invokestatic 145, 3) := by decide +kernel
theorem dr_cX17_mayMerge_52 : decode cX17_mayMerge 52 = .ok (.istore 6, 2) := by decide +kernel
theorem dr_cX17_mayMerge_54 : decode cX17_mayMerge 54 = .ok (.aload_n 0, 1) := by decide +kernel
theorem dr_cX17_mayMerge_55 : decode cX17_mayMerge 55 = .ok (.getfield 135, 3) := by decide +kernel
theorem dr_cX17_mayMerge_58 : decode cX17_mayMerge 58 = .ok (.iload_n 2, 1) := by decide +kernel
theorem dr_cX17_mayMerge_59 : decode cX17_mayMerge 59 = .ok (.aaload, 1) := by decide +kernel
theorem dr_cX17_mayMerge_60 : decode cX17_mayMerge 60 = .ok (.iload 5, 2) := by decide +kernel
theorem dr_cX17_mayMerge_62 : decode cX17_mayMerge 62 = .ok (.invokestatic 145, 3) := by decide +kernel
theorem dr_cX17_mayMerge_65 : decode cX17_mayMerge 65 = .ok (.istore 7, 2) := by decide +kernel
theorem dr_cX17_mayMerge_67 : decode cX17_mayMerge 67 = .ok (.iload 6, 2) := by decide +kernel
theorem dr_cX17_mayMerge_69 : decode cX17_mayMerge 69 = .ok (.ifCond .ne 11, 3) := by decide +kernel
theorem dr_cX17_mayMerge_72 : decode cX17_mayMerge 72 = .ok (.iload 7, 2) := by decide +kernel
theorem dr_cX17_mayMerge_74 : decode cX17_mayMerge 74 = .ok (.ifCond .ne 6, 3) := by decide +kernel
theorem dr_cX17_mayMerge_77 : decode cX17_mayMerge 77 = .ok (.goto 43, 3) := by decide +kernel
theorem dr_cX17_mayMerge_120 : decode cX17_mayMerge 120 = .ok (.iinc 5 1, 3) := by decide +kernel
theorem dr_cX17_mayMerge_123 : decode cX17_mayMerge 123 = .ok (.goto (-90), 3) := by decide +kernel
theorem dr_cX17_mayMerge_80 : decode cX17_mayMerge 80 = .ok (.iload 4, 2) := by decide +kernel
theorem dr_cX17_mayMerge_82 : decode cX17_mayMerge 82 = .ok (.aload_n 0, 1) := by decide +kernel
theorem dr_cX17_mayMerge_83 : decode cX17_mayMerge 83 = .ok (.getfield 135, 3) := by decide +kernel
theorem dr_cX17_mayMerge_86 : decode cX17_mayMerge 86 = .ok (.iload 5, 2) := by decide +kernel
theorem dr_cX17_mayMerge_88 : decode cX17_mayMerge 88 = .ok (.aaload, 1) := by decide +kernel
theorem dr_cX17_mayMerge_89 : decode cX17_mayMerge 89 = .ok (.invokestatic 202, 3) := by decide +kernel
theorem wr_11_16 : (Jvm.Cond.methodLink "SpillForgeModel" (202 : Nat) ({ cls := "SpillForgeModel", name := "count", desc := "([J)I" } : Jvm.MethodName)) ∈ gw := gw_11 16 rfl rfl
theorem wr_11_18 : (Jvm.Cond.code ({ cls := "SpillForgeModel", name := "count", desc := "([J)I" } : Jvm.MethodName) prog_14_method_5_code (3 : Nat) (Option.some Jvm.ClassFile.FieldType.int)) ∈ gw := gw_11 18 rfl rfl
theorem wr_11_17 : (Jvm.Cond.static ({ cls := "SpillForgeModel", name := "count", desc := "([J)I" } : Jvm.MethodName)) ∈ gw := gw_11 17 rfl rfl
theorem dr_cX17_mayMerge_92 : decode cX17_mayMerge 92 = .ok (.iload 6, 2) := by decide +kernel
theorem dr_cX17_mayMerge_94 : decode cX17_mayMerge 94 = .ok (.ifCond .eq 12, 3) := by decide +kernel
theorem dr_cX17_mayMerge_106 : decode cX17_mayMerge 106 = .ok (.iconst 0, 1) := by decide +kernel
theorem dr_cX17_mayMerge_107 : decode cX17_mayMerge 107 = .ok (.isub, 1) := by decide +kernel
theorem dr_cX17_mayMerge_108 : decode cX17_mayMerge 108 = .ok (.iload_n 3, 1) := by decide +kernel
theorem dr_cX17_mayMerge_109 : decode cX17_mayMerge 109 = .ok (.if_icmp .lt 7, 3) := by decide +kernel
theorem dr_cX17_mayMerge_116 : decode cX17_mayMerge 116 = .ok (.iconst 0, 1) := by decide +kernel
theorem dr_cX17_mayMerge_117 : decode cX17_mayMerge 117 = .ok (.iadd, 1) := by decide +kernel
theorem dr_cX17_mayMerge_118 : decode cX17_mayMerge 118 = .ok (.istore 4, 2) := by decide +kernel
theorem dr_cX17_mayMerge_112 : decode cX17_mayMerge 112 = .ok (.iconst 1, 1) := by decide +kernel
theorem dr_cX17_mayMerge_113 : decode cX17_mayMerge 113 = .ok (.goto 4, 3) := by decide +kernel
theorem dr_cX17_mayMerge_97 : decode cX17_mayMerge 97 = .ok (.iload 7, 2) := by decide +kernel
theorem dr_cX17_mayMerge_99 : decode cX17_mayMerge 99 = .ok (.ifCond .eq 7, 3) := by decide +kernel
theorem dr_cX17_mayMerge_102 : decode cX17_mayMerge 102 = .ok (.iconst 1, 1) := by decide +kernel
theorem dr_cX17_mayMerge_103 : decode cX17_mayMerge 103 = .ok (.goto 4, 3) := by decide +kernel
theorem dr_cX17_next_0 : decode cX17_next 0 = .ok (.iconst 0, 1) := by decide +kernel
theorem dr_cX17_next_1 : decode cX17_next 1 = .ok (.istore_n 2, 1) := by decide +kernel
theorem dr_cX17_next_2 : decode cX17_next 2 = .ok (.iload_n 2, 1) := by decide +kernel
theorem dr_cX17_next_3 : decode cX17_next 3 = .ok (.sipush 2000, 3) := by decide +kernel
theorem dr_cX17_next_6 : decode cX17_next 6 = .ok (.if_icmp .ge 30, 3) := by decide +kernel
theorem dr_cX17_next_36 : decode cX17_next 36 = .ok (.iconst (-1), 1) := by decide +kernel
theorem dr_cX17_next_37 : decode cX17_next 37 = .ok (.istore_n 2, 1) := by decide +kernel
theorem dr_cX17_next_38 : decode cX17_next 38 = .ok (.iconst 0, 1) := by decide +kernel
theorem dr_cX17_next_39 : decode cX17_next 39 = .ok (.istore_n 3, 1) := by decide +kernel
theorem dr_cX17_next_40 : decode cX17_next 40 = .ok (.iload_n 3, 1) := by decide +kernel
theorem dr_cX17_next_41 : decode cX17_next 41 = .ok (.sipush 2000, 3) := by decide +kernel
theorem dr_cX17_next_44 : decode cX17_next 44 = .ok (.if_icmp .ge 127, 3) := by decide +kernel
theorem dr_cX17_next_171 : decode cX17_next 171 = .ok (.iload_n 2, 1) := by decide +kernel
theorem dr_cX17_next_172 : decode cX17_next 172 = .ok (.ireturn, 1) := by decide +kernel
theorem dr_cX17_next_47 : decode cX17_next 47 = .ok (.aload_n 0, 1) := by decide +kernel
theorem dr_cX17_next_48 : decode cX17_next 48 = .ok (.getfield 206, 3) := by decide +kernel
theorem wr_7_92 : (Jvm.Cond.fieldLink "SpillForgeModel" (206 : Nat) "SpillForgeModel" "there" "[Z") ∈ gw := gw_7 92 rfl rfl
theorem dr_cX17_next_51 : decode cX17_next 51 = .ok (.iload_n 3, 1) := by decide +kernel
theorem dr_cX17_next_52 : decode cX17_next 52 = .ok (.baload, 1) := by decide +kernel
theorem dr_cX17_next_53 : decode cX17_next 53 = .ok (.ifCond .ne 6, 3) := by decide +kernel
theorem dr_cX17_next_59 : decode cX17_next 59 = .ok (.iload_n 2, 1) := by decide +kernel
theorem dr_cX17_next_60 : decode cX17_next 60 = .ok (.ifCond .ge 8, 3) := by decide +kernel
theorem dr_cX17_next_68 : decode cX17_next 68 = .ok (.iload_n 3, 1) := by decide +kernel
theorem dr_cX17_next_69 : decode cX17_next 69 = .ok (.bipush 100, 2) := by decide +kernel
theorem dr_cX17_next_71 : decode cX17_next 71 = .ok (.if_icmp .lt 7, 3) := by decide +kernel
theorem dr_cX17_next_78 : decode cX17_next 78 = .ok (.iconst 0, 1) := by decide +kernel
theorem dr_cX17_next_79 : decode cX17_next 79 = .ok (.istore 4, 2) := by decide +kernel
theorem dr_cX17_next_81 : decode cX17_next 81 = .ok (.iload_n 2, 1) := by decide +kernel
theorem dr_cX17_next_82 : decode cX17_next 82 = .ok (.bipush 100, 2) := by decide +kernel
theorem dr_cX17_next_84 : decode cX17_next 84 = .ok (.if_icmp .lt 7, 3) := by decide +kernel
theorem dr_cX17_next_91 : decode cX17_next 91 = .ok (.iconst 0, 1) := by decide +kernel
theorem dr_cX17_next_92 : decode cX17_next 92 = .ok (.istore 5, 2) := by decide +kernel
theorem dr_cX17_next_94 : decode cX17_next 94 = .ok (.iload 4, 2) := by decide +kernel
theorem dr_cX17_next_96 : decode cX17_next 96 = .ok (.ifCond .eq 11, 3) := by decide +kernel
theorem dr_cX17_next_107 : decode cX17_next 107 = .ok (.aload_n 0, 1) := by decide +kernel
theorem dr_cX17_next_108 : decode cX17_next 108 = .ok (.getfield 174, 3) := by decide +kernel
theorem wr_7_79 : (Jvm.Cond.fieldLink "SpillForgeModel" (174 : Nat) "SpillForgeModel" "weight" "[I") ∈ gw := gw_7 79 rfl rfl
theorem dr_cX17_next_111 : decode cX17_next 111 = .ok (.iload_n 3, 1) := by decide +kernel
theorem dr_cX17_next_112 : decode cX17_next 112 = .ok (.iaload, 1) := by decide +kernel
theorem dr_cX17_next_113 : decode cX17_next 113 = .ok (.i2l, 1) := by decide +kernel
theorem dr_cX17_next_114 : decode cX17_next 114 = .ok (.aload_n 0, 1) := by decide +kernel
theorem dr_cX17_next_115 : decode cX17_next 115 = .ok (.getfield 209, 3) := by decide +kernel
theorem wr_7_90 : (Jvm.Cond.fieldLink "SpillForgeModel" (209 : Nat) "SpillForgeModel" "left" "[I") ∈ gw := gw_7 90 rfl rfl
theorem dr_cX17_next_118 : decode cX17_next 118 = .ok (.iload_n 2, 1) := by decide +kernel
theorem dr_cX17_next_119 : decode cX17_next 119 = .ok (.iaload, 1) := by decide +kernel
theorem dr_cX17_next_120 : decode cX17_next 120 = .ok (.i2l, 1) := by decide +kernel
theorem dr_cX17_next_121 : decode cX17_next 121 = .ok (.lmul, 1) := by decide +kernel
theorem dr_cX17_next_122 : decode cX17_next 122 = .ok (.aload_n 0, 1) := by decide +kernel
theorem dr_cX17_next_123 : decode cX17_next 123 = .ok (.getfield 174, 3) := by decide +kernel
theorem dr_cX17_next_126 : decode cX17_next 126 = .ok (.iload_n 2, 1) := by decide +kernel
theorem dr_cX17_next_127 : decode cX17_next 127 = .ok (.iaload, 1) := by decide +kernel
theorem dr_cX17_next_128 : decode cX17_next 128 = .ok (.i2l, 1) := by decide +kernel
theorem dr_cX17_next_129 : decode cX17_next 129 = .ok (.aload_n 0, 1) := by decide +kernel
theorem dr_cX17_next_130 : decode cX17_next 130 = .ok (.getfield 209, 3) := by decide +kernel
theorem dr_cX17_next_133 : decode cX17_next 133 = .ok (.iload_n 3, 1) := by decide +kernel
theorem dr_cX17_next_134 : decode cX17_next 134 = .ok (.iaload, 1) := by decide +kernel
theorem dr_cX17_next_135 : decode cX17_next 135 = .ok (.i2l, 1) := by decide +kernel
theorem dr_cX17_next_136 : decode cX17_next 136 = .ok (.lmul, 1) := by decide +kernel
theorem dr_cX17_next_137 : decode cX17_next 137 = .ok (.lcmp, 1) := by decide +kernel
theorem dr_cX17_next_138 : decode cX17_next 138 = .ok (.ifCond .ge 7, 3) := by decide +kernel
theorem dr_cX17_next_145 : decode cX17_next 145 = .ok (.iconst 0, 1) := by decide +kernel
theorem dr_cX17_next_146 : decode cX17_next 146 = .ok (.istore 6, 2) := by decide +kernel
theorem dr_cX17_next_148 : decode cX17_next 148 = .ok (.iload 4, 2) := by decide +kernel
theorem dr_cX17_next_150 : decode cX17_next 150 = .ok (.ifCond .ne 8, 3) := by decide +kernel
theorem dr_cX17_next_153 : decode cX17_next 153 = .ok (.iload 5, 2) := by decide +kernel
theorem dr_cX17_next_155 : decode cX17_next 155 = .ok (.ifCond .ne 8, 3) := by decide +kernel
theorem dr_cX17_next_158 : decode cX17_next 158 = .ok (.iload 6, 2) := by decide +kernel
theorem dr_cX17_next_160 : decode cX17_next 160 = .ok (.ifCond .eq 5, 3) := by decide +kernel
theorem dr_cX17_next_165 : decode cX17_next 165 = .ok (.iinc 3 1, 3) := by decide +kernel
theorem dr_cX17_next_168 : decode cX17_next 168 = .ok (.goto (-128), 3) := by decide +kernel
theorem dr_cX17_next_141 : decode cX17_next 141 = .ok (.iconst 1, 1) := by decide +kernel
theorem dr_cX17_next_142 : decode cX17_next 142 = .ok (.goto 4, 3) := by decide +kernel
theorem dr_cX17_next_163 : decode cX17_next 163 = .ok (.iload_n 3, 1) := by decide +kernel
theorem dr_cX17_next_164 : decode cX17_next 164 = .ok (.istore_n 2, 1) := by decide +kernel
theorem dr_cX17_next_87 : decode cX17_next 87 = .ok (.iconst 1, 1) := by decide +kernel
theorem dr_cX17_next_88 : decode cX17_next 88 = .ok (.goto 4, 3) := by decide +kernel
theorem dr_cX17_next_74 : decode cX17_next 74 = .ok (.iconst 1, 1) := by decide +kernel
theorem dr_cX17_next_75 : decode cX17_next 75 = .ok (.goto 4, 3) := by decide +kernel
theorem dr_cX17_next_99 : decode cX17_next 99 = .ok (.iload 5, 2) := by decide +kernel
theorem dr_cX17_next_101 : decode cX17_next 101 = .ok (.ifCond .ne 6, 3) := by decide +kernel
theorem dr_cX17_next_104 : decode cX17_next 104 = .ok (.goto 61, 3) := by decide +kernel
theorem dr_cX17_next_63 : decode cX17_next 63 = .ok (.iload_n 3, 1) := by decide +kernel
theorem dr_cX17_next_64 : decode cX17_next 64 = .ok (.istore_n 2, 1) := by decide +kernel
theorem dr_cX17_next_65 : decode cX17_next 65 = .ok (.goto 100, 3) := by decide +kernel
theorem dr_cX17_next_56 : decode cX17_next 56 = .ok (.goto 109, 3) := by decide +kernel
theorem dr_cX17_next_9 : decode cX17_next 9 = .ok (.aload_n 0, 1) := by decide +kernel
theorem dr_cX17_next_10 : decode cX17_next 10 = .ok (.getfield 206, 3) := by decide +kernel
theorem dr_cX17_next_13 : decode cX17_next 13 = .ok (.iload_n 2, 1) := by decide +kernel
theorem dr_cX17_next_14 : decode cX17_next 14 = .ok (.baload, 1) := by decide +kernel
theorem dr_cX17_next_15 : decode cX17_next 15 = .ok (.ifCond .eq 15, 3) := by decide +kernel
theorem dr_cX17_next_30 : decode cX17_next 30 = .ok (.iinc 2 1, 3) := by decide +kernel
theorem dr_cX17_next_33 : decode cX17_next 33 = .ok (.goto (-31), 3) := by decide +kernel
theorem dr_cX17_next_18 : decode cX17_next 18 = .ok (.aload_n 0, 1) := by decide +kernel
theorem dr_cX17_next_19 : decode cX17_next 19 = .ok (.getfield 209, 3) := by decide +kernel
theorem dr_cX17_next_22 : decode cX17_next 22 = .ok (.iload_n 2, 1) := by decide +kernel
theorem dr_cX17_next_23 : decode cX17_next 23 = .ok (.iaload, 1) := by decide +kernel
theorem dr_cX17_next_24 : decode cX17_next 24 = .ok (.iload_n 1, 1) := by decide +kernel
theorem dr_cX17_next_25 : decode cX17_next 25 = .ok (.if_icmp .ge 5, 3) := by decide +kernel
theorem dr_cX17_next_28 : decode cX17_next 28 = .ok (.iload_n 2, 1) := by decide +kernel
theorem dr_cX17_next_29 : decode cX17_next 29 = .ok (.ireturn, 1) := by decide +kernel
abbrev ky_16018_SpillForgeModel_mayMerge : gKey := (cX17_mayMerge, 8, "SpillForgeModel", (some FieldType.boolean), [], "mayMerge", fun _ _ => True)
def pt_16018_SpillForgeModel_mayMerge (D : va_G) (I : FieldType → ClassId) (γ el : Nat → Nat → Nat) (P16012 : List Nat) (F16013 : Nat → va_E) (q16014 : Nat) (p16015 : Int32) (p16016 : Int32) (p16017 : Int32) : Option Value → va_W → Nat → Nat → Prop := fun r w dc ds => ∃ (o17883 : Int32), r = some (.int o17883) ∧ w = va_pl P16012 F16013 ∧ dc ≤ 0 ∧ ds ≤ 0 ∧ gB o17883 0 1
set_option maxRecDepth 100000 in
set_option maxHeartbeats 4000000 in
theorem ct_16018_SpillForgeModel_mayMerge (l : Launch) (hl0 : l.stackTraces = false) (D : va_G) (I : FieldType → ClassId) (γ el : Nat → Nat → Nat) (P16012 : List Nat) (F16013 : Nat → va_E) (q16014 : Nat) (p16015 : Int32) (p16016 : Int32) (p16017 : Int32) (hT : RS D I P16012 F16013 γ el) (htq16014 : rKd γ q16014 10) (bp16015 : gB p16015 0 1999) (bp16016 : gB p16016 0 1999) : CtA (gV D I) l yX17_mayMerge cX17_mayMerge 8 (some FieldType.boolean) 2 43 0 0 [.ref q16014, .int p16015, .int p16016, .int p16017] (va_pl P16012 F16013) (pt_16018_SpillForgeModel_mayMerge D I γ el P16012 F16013 q16014 p16015 p16016 p16017) gNA := by
  refine CtA_of hl0 (by decide) (Nat.le_of_ble_eq_true rfl) ?_
  have bp16017 := gB_any p16017
  refine G_iload_n 1 dr_cX17_mayMerge_0 rfl ?_
  refine G_bipush 100 dr_cX17_mayMerge_1 (by decide +kernel) ?_
  refine G_icmp_ge 25 dr_cX17_mayMerge_3 (by decide +kernel) (fun hc16019 => ?_) (fun hc16019 => ?_)
  · have r16020 : 100 ≤ p16015.toInt := gj_leL hc16019 (show Int32.toInt 100 = 100 by decide)
    have bp16015' : gB p16015 100 1999 := ⟨by omega, by omega⟩
    refine G_iconst 0 dr_cX17_mayMerge_25 (by decide +kernel) ?_
    exact G_zretA FieldType.boolean dr_cX17_mayMerge_26 rfl rfl (Nat.le_of_ble_eq_true rfl) (Nat.le_of_ble_eq_true rfl) ⟨0, rfl, rfl, (Nat.le_of_ble_eq_true rfl), (Nat.le_of_ble_eq_true rfl), (gB_w (gBl (show Int32.toInt 0 = 0 by decide)) (by decide) (by decide))⟩
  · have r16021 : p16015.toInt < 100 := gj_nleL hc16019 (show Int32.toInt 100 = 100 by decide)
    have bp16015' : gB p16015 0 99 := ⟨by omega, by omega⟩
    refine G_iload_n 2 dr_cX17_mayMerge_6 rfl ?_
    refine G_bipush 100 dr_cX17_mayMerge_7 (by decide +kernel) ?_
    refine G_icmp_ge 25 dr_cX17_mayMerge_9 (by decide +kernel) (fun hc16022 => ?_) (fun hc16022 => ?_)
    · have r16023 : 100 ≤ p16016.toInt := gj_leL hc16022 (show Int32.toInt 100 = 100 by decide)
      have bp16016' : gB p16016 100 1999 := ⟨by omega, by omega⟩
      refine G_iconst 0 dr_cX17_mayMerge_25 (by decide +kernel) ?_
      exact G_zretA FieldType.boolean dr_cX17_mayMerge_26 rfl rfl (Nat.le_of_ble_eq_true rfl) (Nat.le_of_ble_eq_true rfl) ⟨0, rfl, rfl, (Nat.le_of_ble_eq_true rfl), (Nat.le_of_ble_eq_true rfl), (gB_w (gBl (show Int32.toInt 0 = 0 by decide)) (by decide) (by decide))⟩
    · have r16024 : p16016.toInt < 100 := gj_nleL hc16022 (show Int32.toInt 100 = 100 by decide)
      have bp16016' : gB p16016 0 99 := ⟨by omega, by omega⟩
      refine G_aload_n 0 dr_cX17_mayMerge_12 rfl ?_
      have hm16025 : q16014 ∈ P16012 := RS_m hT htq16014 (by decide)
      obtain ⟨q16027, q16028, p16029, p16030, p16031, p16032, p16033, p16034, p16035, p16036, p16037, p16038, p16039, p16040, p16041, p16042, p16043, he16026, hB16070, ht16044, ht16045, ht16046, ht16047, ht16048, ht16049, ht16050, ht16051, ht16052, ht16053, ht16054, ht16055, ht16056, ht16057, ht16058, ht16059, ht16060, ht16061, ht16062, ht16063, ht16064, ht16065, ht16066, ht16067, hB16071⟩ := show rk_10 γ (F16013 q16014) from RS_o hT htq16014
      refine Gp_get 1 hm16025 he16026 dr_cX17_mayMerge_13 (gk_X17 D I) (Nat.le_of_ble_eq_true rfl) wr_7_75 rfl ?_
      refine G_iload_n 1 dr_cX17_mayMerge_16 rfl ?_
      have hm16072 : (γ 9 1) ∈ P16012 := RS_m hT ht16047 (by decide)
      obtain ⟨f16074, he16073, hg16075⟩ := show rk_13 I γ (F16013 (γ 9 1)) from RS_o hT ht16047
      obtain ⟨q16076, hx16078⟩ : ∃ x, x = γ 11 p16015.toInt.toNat := ⟨_, rfl⟩
      have ht16077 : rKd γ q16076 36 := by rw [hx16078]; exact (hg16075 _ (show p16015.toInt.toNat < 2000 by omega)).2.1
      refine Gp_aald 5 hm16072 he16073 dr_cX17_mayMerge_17 rfl rfl (gB_in bp16015' (by decide) (by decide)) ?_
      rw [show f16074 p16015.toNatClampNeg = some q16076 from (hg16075 _ (show p16015.toInt.toNat < 2000 by omega)).1.trans (by rw [hx16078])]
      change G _ _ _ _ _ _ _ (.ref q16076 :: _) _ _ _
      refine G_iload_n 2 dr_cX17_mayMerge_18 rfl ?_
      have hm16079 : q16076 ∈ P16012 := RS_m hT ht16077 (by decide)
      obtain ⟨f16081, he16080, wf16081⟩ := show rk_36 I (F16013 q16076) from RS_o hT ht16077
      refine Gw_callS (As := [.ref q16076, .int p16016]) (gV_ok D I) (cp_1838_SpillForgeModel_has l hl0 D I P16012 F16013 q16076 p16016 f16081 hm16079 he16080 (gB_w bp16016' (by decide) (by decide))) dr_cX17_mayMerge_19 ⟨wr_10_203, wr_1_14, wr_10_205, by decide, rfl, (Nat.le_of_ble_eq_true rfl), (Nat.le_of_ble_eq_true rfl)⟩ wr_10_204 (show 0 + 0 ≤ 0 by first | omega | decide) (show 0 + 0 ≤ 0 by first | omega | decide) (Nat.le_of_ble_eq_true rfl) (fun r16085 w16086 dc16082 ds16083 hp16084 => ?_) (fun _ _ _ _ _ z => z.elim)
      rcases hp16084 with ⟨z16087, z16088, rfl, rfl, hdc, hds, r16089, r16090, r16091, r16092⟩ | ⟨z16093, z16094, rfl, rfl, hdc, hds, r16095, r16096, r16097, r16098⟩
      · change G _ _ _ _ _ _ _ (.int 0 :: _) _ _ _
        refine G_widen (cs' := 0) (sl' := 0) (by omega) (by omega) ?_
        refine G_if_eq 27 dr_cX17_mayMerge_22 (by decide +kernel) (fun _ => ?_) (fun hc => absurd hc (by decide))
        refine G_iconst 0 dr_cX17_mayMerge_27 (by decide +kernel) ?_
        refine G_istore (L' := [(4, .int 0), (0, .ref q16014), (1, .int p16015), (2, .int p16016), (3, .int p16017)]) dr_cX17_mayMerge_28 (Nat.le_of_ble_eq_true rfl) rfl ?_
        refine G_iconst 0 dr_cX17_mayMerge_30 (by decide +kernel) ?_
        refine G_istore (L' := [(5, .int 0), (4, .int 0), (0, .ref q16014), (1, .int p16015), (2, .int p16016), (3, .int p16017)]) dr_cX17_mayMerge_31 (Nat.le_of_ble_eq_true rfl) rfl ?_
        have hlp33_17742 : ∀ (n33_17742 : Nat) (g17741 : Int32) (g17742 : Int32), gB g17741 0 2000 → ((2001 : Int) - g17741.toInt).toNat < n33_17742 → G (gV D I) l (gRm 2 43 0 0) (gMA (gV D I) (pt_16018_SpillForgeModel_mayMerge D I γ el P16012 F16013 q16014 p16015 p16016 p16017) gNA 0 0) ky_16018_SpillForgeModel_mayMerge 33 [(5, .int g17741), (4, .int g17742), (0, .ref q16014), (1, .int p16015), (2, .int p16016), (3, .int p16017)] [] (va_pl P16012 F16013) 0 0 := by
          intro n33_17742
          induction n33_17742 with
          | zero => intro g17741 g17742 bg17741 hm33_17742; exact absurd hm33_17742 (Nat.not_lt_zero _)
          | succ n33_17742 ih33_17742 =>
            intro g17741 g17742 bg17741 hm33_17742
            have bg17742 := gB_any g17742
            refine G_iload 0 dr_cX17_mayMerge_33 rfl ?_
            refine G_sipush 2000 dr_cX17_mayMerge_35 (by decide +kernel) ?_
            refine G_icmp_ge 126 dr_cX17_mayMerge_38 (by decide +kernel) (fun hc17744 => ?_) (fun hc17744 => ?_)
            · have r17745 : 2000 ≤ g17741.toInt := gj_leL hc17744 (show Int32.toInt 2000 = 2000 by decide)
              have bg17741' : gB g17741 2000 2000 := ⟨by omega, by omega⟩
              refine G_iload 1 dr_cX17_mayMerge_126 rfl ?_
              refine G_iload_n 5 dr_cX17_mayMerge_128 rfl ?_
              refine G_icmp_ge 136 dr_cX17_mayMerge_129 (by decide +kernel) (fun hc17746 => ?_) (fun hc17746 => ?_)
              · have r17747 : p16017.toInt ≤ g17742.toInt := gC_le hc17746
                refine G_iconst 0 dr_cX17_mayMerge_136 (by decide +kernel) ?_
                exact G_zretA FieldType.boolean dr_cX17_mayMerge_137 rfl rfl (Nat.le_of_ble_eq_true rfl) (Nat.le_of_ble_eq_true rfl) ⟨0, rfl, rfl, (Nat.le_of_ble_eq_true rfl), (Nat.le_of_ble_eq_true rfl), (gB_w (gBl (show Int32.toInt 0 = 0 by decide)) (by decide) (by decide))⟩
              · have r17748 : g17742.toInt < p16017.toInt := gC_nle hc17746
                have bg17742' : gB g17742 (-2147483648) 2147483646 := ⟨by omega, by omega⟩
                have bp16017' : gB p16017 (-2147483647) 2147483647 := ⟨by omega, by omega⟩
                refine G_iconst 1 dr_cX17_mayMerge_132 (by decide +kernel) ?_
                refine G_goto 137 dr_cX17_mayMerge_133 (by decide +kernel) ?_
                exact G_zretA FieldType.boolean dr_cX17_mayMerge_137 rfl rfl (Nat.le_of_ble_eq_true rfl) (Nat.le_of_ble_eq_true rfl) ⟨1, rfl, rfl, (Nat.le_of_ble_eq_true rfl), (Nat.le_of_ble_eq_true rfl), (gB_w (gBl (show Int32.toInt 1 = 1 by decide)) (by decide) (by decide))⟩
            · have r17749 : g17741.toInt < 2000 := gj_nleL hc17744 (show Int32.toInt 2000 = 2000 by decide)
              have bg17741' : gB g17741 0 1999 := ⟨by omega, by omega⟩
              refine G_aload_n 2 dr_cX17_mayMerge_41 rfl ?_
              refine Gp_get 1 hm16025 he16026 dr_cX17_mayMerge_42 (gk_X17 D I) (Nat.le_of_ble_eq_true rfl) wr_7_75 rfl ?_
              refine G_iload_n 3 dr_cX17_mayMerge_45 rfl ?_
              obtain ⟨q17750, hx17752⟩ : ∃ x, x = γ 11 p16015.toInt.toNat := ⟨_, rfl⟩
              have ht17751 : rKd γ q17750 36 := by rw [hx17752]; exact (hg16075 _ (show p16015.toInt.toNat < 2000 by omega)).2.1
              refine Gp_aald 5 hm16072 he16073 dr_cX17_mayMerge_46 rfl rfl (gB_in bp16015' (by decide) (by decide)) ?_
              rw [show f16074 p16015.toNatClampNeg = some q17750 from (hg16075 _ (show p16015.toInt.toNat < 2000 by omega)).1.trans (by rw [hx17752])]
              change G _ _ _ _ _ _ _ (.ref q17750 :: _) _ _ _
              refine G_iload 0 dr_cX17_mayMerge_47 rfl ?_
              have hm17753 : q17750 ∈ P16012 := RS_m hT ht17751 (by decide)
              obtain ⟨f17755, he17754, wf17755⟩ := show rk_36 I (F16013 q17750) from RS_o hT ht17751
              refine Gw_callS (As := [.ref q17750, .int g17741]) (gV_ok D I) (cp_1838_SpillForgeModel_has l hl0 D I P16012 F16013 q17750 g17741 f17755 hm17753 he17754 (gB_w bg17741' (by decide) (by decide))) dr_cX17_mayMerge_49 ⟨wr_10_203, wr_1_14, wr_10_205, by decide, rfl, (Nat.le_of_ble_eq_true rfl), (Nat.le_of_ble_eq_true rfl)⟩ wr_10_204 (show 0 + 0 ≤ 0 by first | omega | decide) (show 0 + 0 ≤ 0 by first | omega | decide) (Nat.le_of_ble_eq_true rfl) (fun r17759 w17760 dc17756 ds17757 hp17758 => ?_) (fun _ _ _ _ _ z => z.elim)
              rcases hp17758 with ⟨z17761, z17762, rfl, rfl, hdc, hds, r17763, r17764, r17765, r17766⟩ | ⟨z17767, z17768, rfl, rfl, hdc, hds, r17769, r17770, r17771, r17772⟩
              · change G _ _ _ _ _ _ _ (.int 0 :: _) _ _ _
                refine G_widen (cs' := 0) (sl' := 0) (by omega) (by omega) ?_
                refine G_istore (L' := [(6, .int 0), (5, .int g17741), (4, .int g17742), (0, .ref q16014), (1, .int p16015), (2, .int p16016), (3, .int p16017)]) dr_cX17_mayMerge_52 (Nat.le_of_ble_eq_true rfl) rfl ?_
                refine G_aload_n 3 dr_cX17_mayMerge_54 rfl ?_
                refine Gp_get 1 hm16025 he16026 dr_cX17_mayMerge_55 (gk_X17 D I) (Nat.le_of_ble_eq_true rfl) wr_7_75 rfl ?_
                refine G_iload_n 5 dr_cX17_mayMerge_58 rfl ?_
                obtain ⟨q17774, hx17776⟩ : ∃ x, x = γ 11 p16016.toInt.toNat := ⟨_, rfl⟩
                have ht17775 : rKd γ q17774 36 := by rw [hx17776]; exact (hg16075 _ (show p16016.toInt.toNat < 2000 by omega)).2.1
                refine Gp_aald 5 hm16072 he16073 dr_cX17_mayMerge_59 rfl rfl (gB_in bp16016' (by decide) (by decide)) ?_
                rw [show f16074 p16016.toNatClampNeg = some q17774 from (hg16075 _ (show p16016.toInt.toNat < 2000 by omega)).1.trans (by rw [hx17776])]
                change G _ _ _ _ _ _ _ (.ref q17774 :: _) _ _ _
                refine G_iload 1 dr_cX17_mayMerge_60 rfl ?_
                have hm17777 : q17774 ∈ P16012 := RS_m hT ht17775 (by decide)
                obtain ⟨f17779, he17778, wf17779⟩ := show rk_36 I (F16013 q17774) from RS_o hT ht17775
                refine Gw_callS (As := [.ref q17774, .int g17741]) (gV_ok D I) (cp_1838_SpillForgeModel_has l hl0 D I P16012 F16013 q17774 g17741 f17779 hm17777 he17778 (gB_w bg17741' (by decide) (by decide))) dr_cX17_mayMerge_62 ⟨wr_10_203, wr_1_14, wr_10_205, by decide, rfl, (Nat.le_of_ble_eq_true rfl), (Nat.le_of_ble_eq_true rfl)⟩ wr_10_204 (show 0 + 0 ≤ 0 by first | omega | decide) (show 0 + 0 ≤ 0 by first | omega | decide) (Nat.le_of_ble_eq_true rfl) (fun r17783 w17784 dc17780 ds17781 hp17782 => ?_) (fun _ _ _ _ _ z => z.elim)
                rcases hp17782 with ⟨z17785, z17786, rfl, rfl, hdc, hds, r17787, r17788, r17789, r17790⟩ | ⟨z17791, z17792, rfl, rfl, hdc, hds, r17793, r17794, r17795, r17796⟩
                · change G _ _ _ _ _ _ _ (.int 0 :: _) _ _ _
                  refine G_widen (cs' := 0) (sl' := 0) (by omega) (by omega) ?_
                  refine G_istore (L' := [(7, .int 0), (6, .int 0), (5, .int g17741), (4, .int g17742), (0, .ref q16014), (1, .int p16015), (2, .int p16016), (3, .int p16017)]) dr_cX17_mayMerge_65 (Nat.le_of_ble_eq_true rfl) rfl ?_
                  refine G_iload 1 dr_cX17_mayMerge_67 rfl ?_
                  refine G_if_ne 80 dr_cX17_mayMerge_69 (by decide +kernel) (fun hc => absurd hc (by decide)) (fun _ => ?_)
                  refine G_iload 0 dr_cX17_mayMerge_72 rfl ?_
                  refine G_if_ne 80 dr_cX17_mayMerge_74 (by decide +kernel) (fun hc => absurd hc (by decide)) (fun _ => ?_)
                  refine G_goto 120 dr_cX17_mayMerge_77 (by decide +kernel) ?_
                  obtain ⟨z17798, hz17798⟩ : ∃ z : Int32, z = g17741 + Int32.ofInt 1 := ⟨_, rfl⟩
                  have ez17798 : z17798.toInt = g17741.toInt + 1 := gI_inc hz17798 (by decide) bg17741' (by decide) (by decide)
                  have bz17798 : gB z17798 1 2000 := ⟨by omega, by omega⟩
                  refine G_iinc (L' := [(5, .int z17798), (7, .int 0), (6, .int 0), (4, .int g17742), (0, .ref q16014), (1, .int p16015), (2, .int p16016), (3, .int p16017)]) z17798 2 dr_cX17_mayMerge_120 rfl hz17798.symm (Nat.le_of_ble_eq_true rfl) rfl ?_
                  refine G_goto 33 dr_cX17_mayMerge_123 (by decide +kernel) ?_
                  refine G_lv (L' := [(5, .int z17798), (4, .int g17742), (0, .ref q16014), (1, .int p16015), (2, .int p16016), (3, .int p16017)]) [0, 3, 4, 5, 6, 7] rfl ?_
                  exact ih33_17742 z17798 g17742 (gB_w bz17798 (by decide) (by decide)) (by omega)
                · change G _ _ _ _ _ _ _ (.int 1 :: _) _ _ _
                  refine G_widen (cs' := 0) (sl' := 0) (by omega) (by omega) ?_
                  refine G_istore (L' := [(7, .int 1), (6, .int 0), (5, .int g17741), (4, .int g17742), (0, .ref q16014), (1, .int p16015), (2, .int p16016), (3, .int p16017)]) dr_cX17_mayMerge_65 (Nat.le_of_ble_eq_true rfl) rfl ?_
                  refine G_iload 1 dr_cX17_mayMerge_67 rfl ?_
                  refine G_if_ne 80 dr_cX17_mayMerge_69 (by decide +kernel) (fun hc => absurd hc (by decide)) (fun _ => ?_)
                  refine G_iload 0 dr_cX17_mayMerge_72 rfl ?_
                  refine G_if_ne 80 dr_cX17_mayMerge_74 (by decide +kernel) (fun _ => ?_) (fun hc => absurd hc (by decide))
                  refine G_iload 3 dr_cX17_mayMerge_80 rfl ?_
                  refine G_aload_n 4 dr_cX17_mayMerge_82 rfl ?_
                  refine Gp_get 1 hm16025 he16026 dr_cX17_mayMerge_83 (gk_X17 D I) (Nat.le_of_ble_eq_true rfl) wr_7_75 rfl ?_
                  refine G_iload 2 dr_cX17_mayMerge_86 rfl ?_
                  obtain ⟨q17799, hx17801⟩ : ∃ x, x = γ 11 g17741.toInt.toNat := ⟨_, rfl⟩
                  have ht17800 : rKd γ q17799 36 := by rw [hx17801]; exact (hg16075 _ (show g17741.toInt.toNat < 2000 by omega)).2.1
                  refine Gp_aald 5 hm16072 he16073 dr_cX17_mayMerge_88 rfl rfl (gB_in bg17741' (by decide) (by decide)) ?_
                  rw [show f16074 g17741.toNatClampNeg = some q17799 from (hg16075 _ (show g17741.toInt.toNat < 2000 by omega)).1.trans (by rw [hx17801])]
                  change G _ _ _ _ _ _ _ (.ref q17799 :: _) _ _ _
                  have hm17802 : q17799 ∈ P16012 := RS_m hT ht17800 (by decide)
                  obtain ⟨f17804, he17803, wf17804⟩ := show rk_36 I (F16013 q17799) from RS_o hT ht17800
                  refine Gw_callS (As := [.ref q17799]) (gV_ok D I) (cp_1892_SpillForgeModel_count l hl0 D I P16012 F16013 q17799 f17804 hm17802 he17803) dr_cX17_mayMerge_89 ⟨wr_11_16, wr_1_14, wr_11_18, by decide, rfl, (Nat.le_of_ble_eq_true rfl), (Nat.le_of_ble_eq_true rfl)⟩ wr_11_17 (show 0 + 0 ≤ 0 by first | omega | decide) (show 0 + 0 ≤ 0 by first | omega | decide) (Nat.le_of_ble_eq_true rfl) (fun r17808 w17809 dc17805 ds17806 hp17807 => ?_) (fun _ _ _ _ _ z => z.elim)
                  obtain ⟨o17810, rfl, rfl, hdc, hds⟩ := hp17807
                  have bo17810 := gB_any o17810
                  change G _ _ _ _ _ _ _ (.int o17810 :: _) _ _ _
                  refine G_widen (cs' := 0) (sl' := 0) (by omega) (by omega) ?_
                  refine G_iload 1 dr_cX17_mayMerge_92 rfl ?_
                  refine G_if_eq 106 dr_cX17_mayMerge_94 (by decide +kernel) (fun _ => ?_) (fun hc => absurd hc (by decide))
                  refine G_iconst 0 dr_cX17_mayMerge_106 (by decide +kernel) ?_
                  refine G_isub dr_cX17_mayMerge_107 (G_nam fun z17811 hz17811 => ?_)
                  have ez17811 : z17811.toInt = o17810.toInt - 0 := by rw [gI_sub hz17811 bo17810 (gBl (show Int32.toInt 0 = 0 by decide)) (by decide) (by decide), show Int32.toInt 0 = 0 from by decide]
                  have bz17811 : gB z17811 (-2147483648) 2147483647 := gB_sub (gI_sub hz17811 bo17810 (gBl (show Int32.toInt 0 = 0 by decide)) (by decide) (by decide)) bo17810 (gBl (show Int32.toInt 0 = 0 by decide)) (by decide) (by decide)
                  refine G_iload_n 7 dr_cX17_mayMerge_108 rfl ?_
                  refine G_icmp_lt 116 dr_cX17_mayMerge_109 (by decide +kernel) (fun hc17812 => ?_) (fun hc17812 => ?_)
                  · have r17813 : z17811.toInt < p16017.toInt := gC_lt hc17812
                    have bz17811' : gB z17811 (-2147483648) 2147483646 := ⟨by omega, by omega⟩
                    have bp16017' : gB p16017 (-2147483647) 2147483647 := ⟨by omega, by omega⟩
                    refine G_iconst 0 dr_cX17_mayMerge_116 (by decide +kernel) ?_
                    refine G_iadd dr_cX17_mayMerge_117 (G_nam fun z17814 hz17814 => ?_)
                    have ez17814 : z17814.toInt = g17742.toInt + 0 := by rw [gI_add hz17814 bg17742 (gBl (show Int32.toInt 0 = 0 by decide)) (by decide) (by decide), show Int32.toInt 0 = 0 from by decide]
                    have bz17814 : gB z17814 (-2147483648) 2147483647 := gB_add (gI_add hz17814 bg17742 (gBl (show Int32.toInt 0 = 0 by decide)) (by decide) (by decide)) bg17742 (gBl (show Int32.toInt 0 = 0 by decide)) (by decide) (by decide)
                    refine G_istore (L' := [(4, .int z17814), (7, .int 1), (6, .int 0), (5, .int g17741), (0, .ref q16014), (1, .int p16015), (2, .int p16016), (3, .int p16017)]) dr_cX17_mayMerge_118 (Nat.le_of_ble_eq_true rfl) rfl ?_
                    obtain ⟨z17815, hz17815⟩ : ∃ z : Int32, z = g17741 + Int32.ofInt 1 := ⟨_, rfl⟩
                    have ez17815 : z17815.toInt = g17741.toInt + 1 := gI_inc hz17815 (by decide) bg17741' (by decide) (by decide)
                    have bz17815 : gB z17815 1 2000 := ⟨by omega, by omega⟩
                    refine G_iinc (L' := [(5, .int z17815), (4, .int z17814), (7, .int 1), (6, .int 0), (0, .ref q16014), (1, .int p16015), (2, .int p16016), (3, .int p16017)]) z17815 3 dr_cX17_mayMerge_120 rfl hz17815.symm (Nat.le_of_ble_eq_true rfl) rfl ?_
                    refine G_goto 33 dr_cX17_mayMerge_123 (by decide +kernel) ?_
                    refine G_lv (L' := [(5, .int z17815), (4, .int z17814), (0, .ref q16014), (1, .int p16015), (2, .int p16016), (3, .int p16017)]) [0, 1, 4, 5, 6, 7] rfl ?_
                    exact ih33_17742 z17815 z17814 (gB_w bz17815 (by decide) (by decide)) (by omega)
                  · have r17816 : p16017.toInt ≤ z17811.toInt := gC_nlt hc17812
                    refine G_iconst 1 dr_cX17_mayMerge_112 (by decide +kernel) ?_
                    refine G_goto 117 dr_cX17_mayMerge_113 (by decide +kernel) ?_
                    refine G_iadd dr_cX17_mayMerge_117 (G_nam fun z17817 hz17817 => ?_)
                    have bz17817 : gB z17817 (-2147483648) 2147483647 := gB_any z17817
                    refine G_istore (L' := [(4, .int z17817), (7, .int 1), (6, .int 0), (5, .int g17741), (0, .ref q16014), (1, .int p16015), (2, .int p16016), (3, .int p16017)]) dr_cX17_mayMerge_118 (Nat.le_of_ble_eq_true rfl) rfl ?_
                    obtain ⟨z17818, hz17818⟩ : ∃ z : Int32, z = g17741 + Int32.ofInt 1 := ⟨_, rfl⟩
                    have ez17818 : z17818.toInt = g17741.toInt + 1 := gI_inc hz17818 (by decide) bg17741' (by decide) (by decide)
                    have bz17818 : gB z17818 1 2000 := ⟨by omega, by omega⟩
                    refine G_iinc (L' := [(5, .int z17818), (4, .int z17817), (7, .int 1), (6, .int 0), (0, .ref q16014), (1, .int p16015), (2, .int p16016), (3, .int p16017)]) z17818 3 dr_cX17_mayMerge_120 rfl hz17818.symm (Nat.le_of_ble_eq_true rfl) rfl ?_
                    refine G_goto 33 dr_cX17_mayMerge_123 (by decide +kernel) ?_
                    refine G_lv (L' := [(5, .int z17818), (4, .int z17817), (0, .ref q16014), (1, .int p16015), (2, .int p16016), (3, .int p16017)]) [0, 1, 4, 5, 6, 7] rfl ?_
                    exact ih33_17742 z17818 z17817 (gB_w bz17818 (by decide) (by decide)) (by omega)
              · change G _ _ _ _ _ _ _ (.int 1 :: _) _ _ _
                refine G_widen (cs' := 0) (sl' := 0) (by omega) (by omega) ?_
                refine G_istore (L' := [(6, .int 1), (5, .int g17741), (4, .int g17742), (0, .ref q16014), (1, .int p16015), (2, .int p16016), (3, .int p16017)]) dr_cX17_mayMerge_52 (Nat.le_of_ble_eq_true rfl) rfl ?_
                refine G_aload_n 3 dr_cX17_mayMerge_54 rfl ?_
                refine Gp_get 1 hm16025 he16026 dr_cX17_mayMerge_55 (gk_X17 D I) (Nat.le_of_ble_eq_true rfl) wr_7_75 rfl ?_
                refine G_iload_n 5 dr_cX17_mayMerge_58 rfl ?_
                obtain ⟨q17819, hx17821⟩ : ∃ x, x = γ 11 p16016.toInt.toNat := ⟨_, rfl⟩
                have ht17820 : rKd γ q17819 36 := by rw [hx17821]; exact (hg16075 _ (show p16016.toInt.toNat < 2000 by omega)).2.1
                refine Gp_aald 5 hm16072 he16073 dr_cX17_mayMerge_59 rfl rfl (gB_in bp16016' (by decide) (by decide)) ?_
                rw [show f16074 p16016.toNatClampNeg = some q17819 from (hg16075 _ (show p16016.toInt.toNat < 2000 by omega)).1.trans (by rw [hx17821])]
                change G _ _ _ _ _ _ _ (.ref q17819 :: _) _ _ _
                refine G_iload 1 dr_cX17_mayMerge_60 rfl ?_
                have hm17822 : q17819 ∈ P16012 := RS_m hT ht17820 (by decide)
                obtain ⟨f17824, he17823, wf17824⟩ := show rk_36 I (F16013 q17819) from RS_o hT ht17820
                refine Gw_callS (As := [.ref q17819, .int g17741]) (gV_ok D I) (cp_1838_SpillForgeModel_has l hl0 D I P16012 F16013 q17819 g17741 f17824 hm17822 he17823 (gB_w bg17741' (by decide) (by decide))) dr_cX17_mayMerge_62 ⟨wr_10_203, wr_1_14, wr_10_205, by decide, rfl, (Nat.le_of_ble_eq_true rfl), (Nat.le_of_ble_eq_true rfl)⟩ wr_10_204 (show 0 + 0 ≤ 0 by first | omega | decide) (show 0 + 0 ≤ 0 by first | omega | decide) (Nat.le_of_ble_eq_true rfl) (fun r17828 w17829 dc17825 ds17826 hp17827 => ?_) (fun _ _ _ _ _ z => z.elim)
                rcases hp17827 with ⟨z17830, z17831, rfl, rfl, hdc, hds, r17832, r17833, r17834, r17835⟩ | ⟨z17836, z17837, rfl, rfl, hdc, hds, r17838, r17839, r17840, r17841⟩
                · change G _ _ _ _ _ _ _ (.int 0 :: _) _ _ _
                  refine G_widen (cs' := 0) (sl' := 0) (by omega) (by omega) ?_
                  refine G_istore (L' := [(7, .int 0), (6, .int 1), (5, .int g17741), (4, .int g17742), (0, .ref q16014), (1, .int p16015), (2, .int p16016), (3, .int p16017)]) dr_cX17_mayMerge_65 (Nat.le_of_ble_eq_true rfl) rfl ?_
                  refine G_iload 1 dr_cX17_mayMerge_67 rfl ?_
                  refine G_if_ne 80 dr_cX17_mayMerge_69 (by decide +kernel) (fun _ => ?_) (fun hc => absurd hc (by decide))
                  refine G_iload 3 dr_cX17_mayMerge_80 rfl ?_
                  refine G_aload_n 4 dr_cX17_mayMerge_82 rfl ?_
                  refine Gp_get 1 hm16025 he16026 dr_cX17_mayMerge_83 (gk_X17 D I) (Nat.le_of_ble_eq_true rfl) wr_7_75 rfl ?_
                  refine G_iload 2 dr_cX17_mayMerge_86 rfl ?_
                  obtain ⟨q17843, hx17845⟩ : ∃ x, x = γ 11 g17741.toInt.toNat := ⟨_, rfl⟩
                  have ht17844 : rKd γ q17843 36 := by rw [hx17845]; exact (hg16075 _ (show g17741.toInt.toNat < 2000 by omega)).2.1
                  refine Gp_aald 5 hm16072 he16073 dr_cX17_mayMerge_88 rfl rfl (gB_in bg17741' (by decide) (by decide)) ?_
                  rw [show f16074 g17741.toNatClampNeg = some q17843 from (hg16075 _ (show g17741.toInt.toNat < 2000 by omega)).1.trans (by rw [hx17845])]
                  change G _ _ _ _ _ _ _ (.ref q17843 :: _) _ _ _
                  have hm17846 : q17843 ∈ P16012 := RS_m hT ht17844 (by decide)
                  obtain ⟨f17848, he17847, wf17848⟩ := show rk_36 I (F16013 q17843) from RS_o hT ht17844
                  refine Gw_callS (As := [.ref q17843]) (gV_ok D I) (cp_1892_SpillForgeModel_count l hl0 D I P16012 F16013 q17843 f17848 hm17846 he17847) dr_cX17_mayMerge_89 ⟨wr_11_16, wr_1_14, wr_11_18, by decide, rfl, (Nat.le_of_ble_eq_true rfl), (Nat.le_of_ble_eq_true rfl)⟩ wr_11_17 (show 0 + 0 ≤ 0 by first | omega | decide) (show 0 + 0 ≤ 0 by first | omega | decide) (Nat.le_of_ble_eq_true rfl) (fun r17852 w17853 dc17849 ds17850 hp17851 => ?_) (fun _ _ _ _ _ z => z.elim)
                  obtain ⟨o17854, rfl, rfl, hdc, hds⟩ := hp17851
                  have bo17854 := gB_any o17854
                  change G _ _ _ _ _ _ _ (.int o17854 :: _) _ _ _
                  refine G_widen (cs' := 0) (sl' := 0) (by omega) (by omega) ?_
                  refine G_iload 1 dr_cX17_mayMerge_92 rfl ?_
                  refine G_if_eq 106 dr_cX17_mayMerge_94 (by decide +kernel) (fun hc => absurd hc (by decide)) (fun _ => ?_)
                  refine G_iload 0 dr_cX17_mayMerge_97 rfl ?_
                  refine G_if_eq 106 dr_cX17_mayMerge_99 (by decide +kernel) (fun _ => ?_) (fun hc => absurd hc (by decide))
                  refine G_iconst 0 dr_cX17_mayMerge_106 (by decide +kernel) ?_
                  refine G_isub dr_cX17_mayMerge_107 (G_nam fun z17855 hz17855 => ?_)
                  have ez17855 : z17855.toInt = o17854.toInt - 0 := by rw [gI_sub hz17855 bo17854 (gBl (show Int32.toInt 0 = 0 by decide)) (by decide) (by decide), show Int32.toInt 0 = 0 from by decide]
                  have bz17855 : gB z17855 (-2147483648) 2147483647 := gB_sub (gI_sub hz17855 bo17854 (gBl (show Int32.toInt 0 = 0 by decide)) (by decide) (by decide)) bo17854 (gBl (show Int32.toInt 0 = 0 by decide)) (by decide) (by decide)
                  refine G_iload_n 7 dr_cX17_mayMerge_108 rfl ?_
                  refine G_icmp_lt 116 dr_cX17_mayMerge_109 (by decide +kernel) (fun hc17856 => ?_) (fun hc17856 => ?_)
                  · have r17857 : z17855.toInt < p16017.toInt := gC_lt hc17856
                    have bz17855' : gB z17855 (-2147483648) 2147483646 := ⟨by omega, by omega⟩
                    have bp16017' : gB p16017 (-2147483647) 2147483647 := ⟨by omega, by omega⟩
                    refine G_iconst 0 dr_cX17_mayMerge_116 (by decide +kernel) ?_
                    refine G_iadd dr_cX17_mayMerge_117 (G_nam fun z17858 hz17858 => ?_)
                    have ez17858 : z17858.toInt = g17742.toInt + 0 := by rw [gI_add hz17858 bg17742 (gBl (show Int32.toInt 0 = 0 by decide)) (by decide) (by decide), show Int32.toInt 0 = 0 from by decide]
                    have bz17858 : gB z17858 (-2147483648) 2147483647 := gB_add (gI_add hz17858 bg17742 (gBl (show Int32.toInt 0 = 0 by decide)) (by decide) (by decide)) bg17742 (gBl (show Int32.toInt 0 = 0 by decide)) (by decide) (by decide)
                    refine G_istore (L' := [(4, .int z17858), (7, .int 0), (6, .int 1), (5, .int g17741), (0, .ref q16014), (1, .int p16015), (2, .int p16016), (3, .int p16017)]) dr_cX17_mayMerge_118 (Nat.le_of_ble_eq_true rfl) rfl ?_
                    obtain ⟨z17859, hz17859⟩ : ∃ z : Int32, z = g17741 + Int32.ofInt 1 := ⟨_, rfl⟩
                    have ez17859 : z17859.toInt = g17741.toInt + 1 := gI_inc hz17859 (by decide) bg17741' (by decide) (by decide)
                    have bz17859 : gB z17859 1 2000 := ⟨by omega, by omega⟩
                    refine G_iinc (L' := [(5, .int z17859), (4, .int z17858), (7, .int 0), (6, .int 1), (0, .ref q16014), (1, .int p16015), (2, .int p16016), (3, .int p16017)]) z17859 3 dr_cX17_mayMerge_120 rfl hz17859.symm (Nat.le_of_ble_eq_true rfl) rfl ?_
                    refine G_goto 33 dr_cX17_mayMerge_123 (by decide +kernel) ?_
                    refine G_lv (L' := [(5, .int z17859), (4, .int z17858), (0, .ref q16014), (1, .int p16015), (2, .int p16016), (3, .int p16017)]) [0, 1, 4, 5, 6, 7] rfl ?_
                    exact ih33_17742 z17859 z17858 (gB_w bz17859 (by decide) (by decide)) (by omega)
                  · have r17860 : p16017.toInt ≤ z17855.toInt := gC_nlt hc17856
                    refine G_iconst 1 dr_cX17_mayMerge_112 (by decide +kernel) ?_
                    refine G_goto 117 dr_cX17_mayMerge_113 (by decide +kernel) ?_
                    refine G_iadd dr_cX17_mayMerge_117 (G_nam fun z17861 hz17861 => ?_)
                    have bz17861 : gB z17861 (-2147483648) 2147483647 := gB_any z17861
                    refine G_istore (L' := [(4, .int z17861), (7, .int 0), (6, .int 1), (5, .int g17741), (0, .ref q16014), (1, .int p16015), (2, .int p16016), (3, .int p16017)]) dr_cX17_mayMerge_118 (Nat.le_of_ble_eq_true rfl) rfl ?_
                    obtain ⟨z17862, hz17862⟩ : ∃ z : Int32, z = g17741 + Int32.ofInt 1 := ⟨_, rfl⟩
                    have ez17862 : z17862.toInt = g17741.toInt + 1 := gI_inc hz17862 (by decide) bg17741' (by decide) (by decide)
                    have bz17862 : gB z17862 1 2000 := ⟨by omega, by omega⟩
                    refine G_iinc (L' := [(5, .int z17862), (4, .int z17861), (7, .int 0), (6, .int 1), (0, .ref q16014), (1, .int p16015), (2, .int p16016), (3, .int p16017)]) z17862 3 dr_cX17_mayMerge_120 rfl hz17862.symm (Nat.le_of_ble_eq_true rfl) rfl ?_
                    refine G_goto 33 dr_cX17_mayMerge_123 (by decide +kernel) ?_
                    refine G_lv (L' := [(5, .int z17862), (4, .int z17861), (0, .ref q16014), (1, .int p16015), (2, .int p16016), (3, .int p16017)]) [0, 1, 4, 5, 6, 7] rfl ?_
                    exact ih33_17742 z17862 z17861 (gB_w bz17862 (by decide) (by decide)) (by omega)
                · change G _ _ _ _ _ _ _ (.int 1 :: _) _ _ _
                  refine G_widen (cs' := 0) (sl' := 0) (by omega) (by omega) ?_
                  refine G_istore (L' := [(7, .int 1), (6, .int 1), (5, .int g17741), (4, .int g17742), (0, .ref q16014), (1, .int p16015), (2, .int p16016), (3, .int p16017)]) dr_cX17_mayMerge_65 (Nat.le_of_ble_eq_true rfl) rfl ?_
                  refine G_iload 1 dr_cX17_mayMerge_67 rfl ?_
                  refine G_if_ne 80 dr_cX17_mayMerge_69 (by decide +kernel) (fun _ => ?_) (fun hc => absurd hc (by decide))
                  refine G_iload 3 dr_cX17_mayMerge_80 rfl ?_
                  refine G_aload_n 4 dr_cX17_mayMerge_82 rfl ?_
                  refine Gp_get 1 hm16025 he16026 dr_cX17_mayMerge_83 (gk_X17 D I) (Nat.le_of_ble_eq_true rfl) wr_7_75 rfl ?_
                  refine G_iload 2 dr_cX17_mayMerge_86 rfl ?_
                  obtain ⟨q17863, hx17865⟩ : ∃ x, x = γ 11 g17741.toInt.toNat := ⟨_, rfl⟩
                  have ht17864 : rKd γ q17863 36 := by rw [hx17865]; exact (hg16075 _ (show g17741.toInt.toNat < 2000 by omega)).2.1
                  refine Gp_aald 5 hm16072 he16073 dr_cX17_mayMerge_88 rfl rfl (gB_in bg17741' (by decide) (by decide)) ?_
                  rw [show f16074 g17741.toNatClampNeg = some q17863 from (hg16075 _ (show g17741.toInt.toNat < 2000 by omega)).1.trans (by rw [hx17865])]
                  change G _ _ _ _ _ _ _ (.ref q17863 :: _) _ _ _
                  have hm17866 : q17863 ∈ P16012 := RS_m hT ht17864 (by decide)
                  obtain ⟨f17868, he17867, wf17868⟩ := show rk_36 I (F16013 q17863) from RS_o hT ht17864
                  refine Gw_callS (As := [.ref q17863]) (gV_ok D I) (cp_1892_SpillForgeModel_count l hl0 D I P16012 F16013 q17863 f17868 hm17866 he17867) dr_cX17_mayMerge_89 ⟨wr_11_16, wr_1_14, wr_11_18, by decide, rfl, (Nat.le_of_ble_eq_true rfl), (Nat.le_of_ble_eq_true rfl)⟩ wr_11_17 (show 0 + 0 ≤ 0 by first | omega | decide) (show 0 + 0 ≤ 0 by first | omega | decide) (Nat.le_of_ble_eq_true rfl) (fun r17872 w17873 dc17869 ds17870 hp17871 => ?_) (fun _ _ _ _ _ z => z.elim)
                  obtain ⟨o17874, rfl, rfl, hdc, hds⟩ := hp17871
                  have bo17874 := gB_any o17874
                  change G _ _ _ _ _ _ _ (.int o17874 :: _) _ _ _
                  refine G_widen (cs' := 0) (sl' := 0) (by omega) (by omega) ?_
                  refine G_iload 1 dr_cX17_mayMerge_92 rfl ?_
                  refine G_if_eq 106 dr_cX17_mayMerge_94 (by decide +kernel) (fun hc => absurd hc (by decide)) (fun _ => ?_)
                  refine G_iload 0 dr_cX17_mayMerge_97 rfl ?_
                  refine G_if_eq 106 dr_cX17_mayMerge_99 (by decide +kernel) (fun hc => absurd hc (by decide)) (fun _ => ?_)
                  refine G_iconst 1 dr_cX17_mayMerge_102 (by decide +kernel) ?_
                  refine G_goto 107 dr_cX17_mayMerge_103 (by decide +kernel) ?_
                  refine G_isub dr_cX17_mayMerge_107 (G_nam fun z17875 hz17875 => ?_)
                  have bz17875 : gB z17875 (-2147483648) 2147483647 := gB_any z17875
                  refine G_iload_n 7 dr_cX17_mayMerge_108 rfl ?_
                  refine G_icmp_lt 116 dr_cX17_mayMerge_109 (by decide +kernel) (fun hc17876 => ?_) (fun hc17876 => ?_)
                  · have r17877 : z17875.toInt < p16017.toInt := gC_lt hc17876
                    have bz17875' : gB z17875 (-2147483648) 2147483646 := ⟨by omega, by omega⟩
                    have bp16017' : gB p16017 (-2147483647) 2147483647 := ⟨by omega, by omega⟩
                    refine G_iconst 0 dr_cX17_mayMerge_116 (by decide +kernel) ?_
                    refine G_iadd dr_cX17_mayMerge_117 (G_nam fun z17878 hz17878 => ?_)
                    have ez17878 : z17878.toInt = g17742.toInt + 0 := by rw [gI_add hz17878 bg17742 (gBl (show Int32.toInt 0 = 0 by decide)) (by decide) (by decide), show Int32.toInt 0 = 0 from by decide]
                    have bz17878 : gB z17878 (-2147483648) 2147483647 := gB_add (gI_add hz17878 bg17742 (gBl (show Int32.toInt 0 = 0 by decide)) (by decide) (by decide)) bg17742 (gBl (show Int32.toInt 0 = 0 by decide)) (by decide) (by decide)
                    refine G_istore (L' := [(4, .int z17878), (7, .int 1), (6, .int 1), (5, .int g17741), (0, .ref q16014), (1, .int p16015), (2, .int p16016), (3, .int p16017)]) dr_cX17_mayMerge_118 (Nat.le_of_ble_eq_true rfl) rfl ?_
                    obtain ⟨z17879, hz17879⟩ : ∃ z : Int32, z = g17741 + Int32.ofInt 1 := ⟨_, rfl⟩
                    have ez17879 : z17879.toInt = g17741.toInt + 1 := gI_inc hz17879 (by decide) bg17741' (by decide) (by decide)
                    have bz17879 : gB z17879 1 2000 := ⟨by omega, by omega⟩
                    refine G_iinc (L' := [(5, .int z17879), (4, .int z17878), (7, .int 1), (6, .int 1), (0, .ref q16014), (1, .int p16015), (2, .int p16016), (3, .int p16017)]) z17879 3 dr_cX17_mayMerge_120 rfl hz17879.symm (Nat.le_of_ble_eq_true rfl) rfl ?_
                    refine G_goto 33 dr_cX17_mayMerge_123 (by decide +kernel) ?_
                    refine G_lv (L' := [(5, .int z17879), (4, .int z17878), (0, .ref q16014), (1, .int p16015), (2, .int p16016), (3, .int p16017)]) [0, 1, 4, 5, 6, 7] rfl ?_
                    exact ih33_17742 z17879 z17878 (gB_w bz17879 (by decide) (by decide)) (by omega)
                  · have r17880 : p16017.toInt ≤ z17875.toInt := gC_nlt hc17876
                    refine G_iconst 1 dr_cX17_mayMerge_112 (by decide +kernel) ?_
                    refine G_goto 117 dr_cX17_mayMerge_113 (by decide +kernel) ?_
                    refine G_iadd dr_cX17_mayMerge_117 (G_nam fun z17881 hz17881 => ?_)
                    have bz17881 : gB z17881 (-2147483648) 2147483647 := gB_any z17881
                    refine G_istore (L' := [(4, .int z17881), (7, .int 1), (6, .int 1), (5, .int g17741), (0, .ref q16014), (1, .int p16015), (2, .int p16016), (3, .int p16017)]) dr_cX17_mayMerge_118 (Nat.le_of_ble_eq_true rfl) rfl ?_
                    obtain ⟨z17882, hz17882⟩ : ∃ z : Int32, z = g17741 + Int32.ofInt 1 := ⟨_, rfl⟩
                    have ez17882 : z17882.toInt = g17741.toInt + 1 := gI_inc hz17882 (by decide) bg17741' (by decide) (by decide)
                    have bz17882 : gB z17882 1 2000 := ⟨by omega, by omega⟩
                    refine G_iinc (L' := [(5, .int z17882), (4, .int z17881), (7, .int 1), (6, .int 1), (0, .ref q16014), (1, .int p16015), (2, .int p16016), (3, .int p16017)]) z17882 3 dr_cX17_mayMerge_120 rfl hz17882.symm (Nat.le_of_ble_eq_true rfl) rfl ?_
                    refine G_goto 33 dr_cX17_mayMerge_123 (by decide +kernel) ?_
                    refine G_lv (L' := [(5, .int z17882), (4, .int z17881), (0, .ref q16014), (1, .int p16015), (2, .int p16016), (3, .int p16017)]) [0, 1, 4, 5, 6, 7] rfl ?_
                    exact ih33_17742 z17882 z17881 (gB_w bz17882 (by decide) (by decide)) (by omega)
        exact hlp33_17742 (((2001 : Int) - 0).toNat + 1) 0 0 (gB_w (gBl (show Int32.toInt 0 = 0 by decide)) (by decide) (by decide)) (Nat.lt_succ_self _)
      · change G _ _ _ _ _ _ _ (.int 1 :: _) _ _ _
        refine G_widen (cs' := 0) (sl' := 0) (by omega) (by omega) ?_
        refine G_if_eq 27 dr_cX17_mayMerge_22 (by decide +kernel) (fun hc => absurd hc (by decide)) (fun _ => ?_)
        refine G_iconst 0 dr_cX17_mayMerge_25 (by decide +kernel) ?_
        exact G_zretA FieldType.boolean dr_cX17_mayMerge_26 rfl rfl (Nat.le_of_ble_eq_true rfl) (Nat.le_of_ble_eq_true rfl) ⟨0, rfl, rfl, (Nat.le_of_ble_eq_true rfl), (Nat.le_of_ble_eq_true rfl), (gB_w (gBl (show Int32.toInt 0 = 0 by decide)) (by decide) (by decide))⟩
abbrev ky_17889_SpillForgeModel_next : gKey := (cX17_next, 7, "SpillForgeModel", (some FieldType.int), [], "next", fun _ _ => True)
def pt_17889_SpillForgeModel_next (D : va_G) (I : FieldType → ClassId) (γ el : Nat → Nat → Nat) (P17885 : List Nat) (F17886 : Nat → va_E) (q17887 : Nat) (p17888 : Int32) : Option Value → va_W → Nat → Nat → Prop := fun r w dc ds => ∃ (o19441 : Int32), r = some (.int o19441) ∧ w = va_pl P17885 F17886 ∧ dc ≤ 0 ∧ ds ≤ 0 ∧ gB o19441 (-1) 1999
set_option maxRecDepth 100000 in
set_option maxHeartbeats 4000000 in
theorem ct_17889_SpillForgeModel_next (l : Launch) (hl0 : l.stackTraces = false) (D : va_G) (I : FieldType → ClassId) (γ el : Nat → Nat → Nat) (P17885 : List Nat) (F17886 : Nat → va_E) (q17887 : Nat) (p17888 : Int32) (hT : RS D I P17885 F17886 γ el) (htq17887 : rKd γ q17887 10) : CtA (gV D I) l yX17_next cX17_next 7 (some FieldType.int) 0 0 0 0 [.ref q17887, .int p17888] (va_pl P17885 F17886) (pt_17889_SpillForgeModel_next D I γ el P17885 F17886 q17887 p17888) gNA := by
  refine CtA_of hl0 (by decide) (Nat.le_of_ble_eq_true rfl) ?_
  have bp17888 := gB_any p17888
  refine G_iconst 0 dr_cX17_next_0 (by decide +kernel) ?_
  refine G_istore_n (L' := [(2, .int 0), (0, .ref q17887), (1, .int p17888)]) dr_cX17_next_1 (Nat.le_of_ble_eq_true rfl) rfl ?_
  have hlp2_19092 : ∀ (n2_19092 : Nat) (g19092 : Int32), gB g19092 0 2000 → ((2001 : Int) - g19092.toInt).toNat < n2_19092 → G (gV D I) l (gRm 0 0 0 0) (gMA (gV D I) (pt_17889_SpillForgeModel_next D I γ el P17885 F17886 q17887 p17888) gNA 0 0) ky_17889_SpillForgeModel_next 2 [(2, .int g19092), (0, .ref q17887), (1, .int p17888)] [] (va_pl P17885 F17886) 0 0 := by
    intro n2_19092
    induction n2_19092 with
    | zero => intro g19092 bg19092 hm2_19092; exact absurd hm2_19092 (Nat.not_lt_zero _)
    | succ n2_19092 ih2_19092 =>
      intro g19092 bg19092 hm2_19092
      refine G_iload_n 0 dr_cX17_next_2 rfl ?_
      refine G_sipush 2000 dr_cX17_next_3 (by decide +kernel) ?_
      refine G_icmp_ge 36 dr_cX17_next_6 (by decide +kernel) (fun hc19094 => ?_) (fun hc19094 => ?_)
      · have r19095 : 2000 ≤ g19092.toInt := gj_leL hc19094 (show Int32.toInt 2000 = 2000 by decide)
        have bg19092' : gB g19092 2000 2000 := ⟨by omega, by omega⟩
        refine G_iconst (-1) dr_cX17_next_36 (by decide +kernel) ?_
        refine G_istore_n (L' := [(2, .int (-1)), (0, .ref q17887), (1, .int p17888)]) dr_cX17_next_37 (Nat.le_of_ble_eq_true rfl) rfl ?_
        refine G_iconst 0 dr_cX17_next_38 (by decide +kernel) ?_
        refine G_istore_n (L' := [(3, .int 0), (2, .int (-1)), (0, .ref q17887), (1, .int p17888)]) dr_cX17_next_39 (Nat.le_of_ble_eq_true rfl) rfl ?_
        have hlp40_19237 : ∀ (n40_19237 : Nat) (g19236 : Int32) (g19237 : Int32), gB g19236 0 2000 → gB g19237 (-1) 1999 → ((2001 : Int) - g19236.toInt).toNat < n40_19237 → G (gV D I) l (gRm 0 0 0 0) (gMA (gV D I) (pt_17889_SpillForgeModel_next D I γ el P17885 F17886 q17887 p17888) gNA 0 0) ky_17889_SpillForgeModel_next 40 [(3, .int g19236), (2, .int g19237), (0, .ref q17887), (1, .int p17888)] [] (va_pl P17885 F17886) 0 0 := by
          intro n40_19237
          induction n40_19237 with
          | zero => intro g19236 g19237 bg19236 bg19237 hm40_19237; exact absurd hm40_19237 (Nat.not_lt_zero _)
          | succ n40_19237 ih40_19237 =>
            intro g19236 g19237 bg19236 bg19237 hm40_19237
            refine G_iload_n 0 dr_cX17_next_40 rfl ?_
            refine G_sipush 2000 dr_cX17_next_41 (by decide +kernel) ?_
            refine G_icmp_ge 171 dr_cX17_next_44 (by decide +kernel) (fun hc19239 => ?_) (fun hc19239 => ?_)
            · have r19240 : 2000 ≤ g19236.toInt := gj_leL hc19239 (show Int32.toInt 2000 = 2000 by decide)
              have bg19236' : gB g19236 2000 2000 := ⟨by omega, by omega⟩
              refine G_iload_n 1 dr_cX17_next_171 rfl ?_
              exact G_iretA dr_cX17_next_172 rfl (Nat.le_of_ble_eq_true rfl) (Nat.le_of_ble_eq_true rfl) ⟨g19237, rfl, rfl, (Nat.le_of_ble_eq_true rfl), (Nat.le_of_ble_eq_true rfl), bg19237⟩
            · have r19241 : g19236.toInt < 2000 := gj_nleL hc19239 (show Int32.toInt 2000 = 2000 by decide)
              have bg19236' : gB g19236 0 1999 := ⟨by omega, by omega⟩
              refine G_aload_n 2 dr_cX17_next_47 rfl ?_
              have hm19242 : q17887 ∈ P17885 := RS_m hT htq17887 (by decide)
              obtain ⟨q19244, q19245, p19246, p19247, p19248, p19249, p19250, p19251, p19252, p19253, p19254, p19255, p19256, p19257, p19258, p19259, p19260, he19243, hB19287, ht19261, ht19262, ht19263, ht19264, ht19265, ht19266, ht19267, ht19268, ht19269, ht19270, ht19271, ht19272, ht19273, ht19274, ht19275, ht19276, ht19277, ht19278, ht19279, ht19280, ht19281, ht19282, ht19283, ht19284, hB19288⟩ := show rk_10 γ (F17886 q17887) from RS_o hT htq17887
              refine Gp_get 18 hm19242 he19243 dr_cX17_next_48 (gk_X17 D I) (Nat.le_of_ble_eq_true rfl) wr_7_92 rfl ?_
              refine G_iload_n 0 dr_cX17_next_51 rfl ?_
              have hm19289 : (γ 9 18) ∈ P17885 := RS_m hT ht19275 (by decide)
              obtain ⟨f19291, he19290, bf19291⟩ := show rk_15 I (F17886 (γ 9 18)) from RS_o hT ht19275
              refine Gp_zald 3 hm19289 he19290 dr_cX17_next_52 rfl (gB_in bg19236' (by decide) (by decide)) (G_nam fun z19292 hz19292 => ?_)
              have bz19292 : gB z19292 0 1 := by rw [hz19292]; exact bf19291 _
              refine G_if_ne 59 dr_cX17_next_53 (by decide +kernel) (fun hc19293 => ?_) (fun hc19293 => ?_)
              · have r19294 : z19292.toInt ≠ 0 := gj_neq hc19293 (show Int32.toInt 0 = 0 by decide)
                have bz19292' : gB z19292 1 1 := ⟨by omega, by omega⟩
                refine G_iload_n 1 dr_cX17_next_59 rfl ?_
                refine G_if_ge 68 dr_cX17_next_60 (by decide +kernel) (fun hc19295 => ?_) (fun hc19295 => ?_)
                · have r19296 : 0 ≤ g19237.toInt := gj_leL hc19295 (show Int32.toInt 0 = 0 by decide)
                  have bg19237' : gB g19237 0 1999 := ⟨by omega, by omega⟩
                  refine G_iload_n 0 dr_cX17_next_68 rfl ?_
                  refine G_bipush 100 dr_cX17_next_69 (by decide +kernel) ?_
                  refine G_icmp_lt 78 dr_cX17_next_71 (by decide +kernel) (fun hc19297 => ?_) (fun hc19297 => ?_)
                  · have r19298 : g19236.toInt < 100 := gj_lt hc19297 (show Int32.toInt 100 = 100 by decide)
                    have bg19236'' : gB g19236 0 99 := ⟨by omega, by omega⟩
                    refine G_iconst 0 dr_cX17_next_78 (by decide +kernel) ?_
                    refine G_istore (L' := [(4, .int 0), (3, .int g19236), (2, .int g19237), (0, .ref q17887), (1, .int p17888)]) dr_cX17_next_79 (Nat.le_of_ble_eq_true rfl) rfl ?_
                    refine G_iload_n 2 dr_cX17_next_81 rfl ?_
                    refine G_bipush 100 dr_cX17_next_82 (by decide +kernel) ?_
                    refine G_icmp_lt 91 dr_cX17_next_84 (by decide +kernel) (fun hc19299 => ?_) (fun hc19299 => ?_)
                    · have r19300 : g19237.toInt < 100 := gj_lt hc19299 (show Int32.toInt 100 = 100 by decide)
                      have bg19237'' : gB g19237 0 99 := ⟨by omega, by omega⟩
                      refine G_iconst 0 dr_cX17_next_91 (by decide +kernel) ?_
                      refine G_istore (L' := [(5, .int 0), (4, .int 0), (3, .int g19236), (2, .int g19237), (0, .ref q17887), (1, .int p17888)]) dr_cX17_next_92 (Nat.le_of_ble_eq_true rfl) rfl ?_
                      refine G_iload 1 dr_cX17_next_94 rfl ?_
                      refine G_if_eq 107 dr_cX17_next_96 (by decide +kernel) (fun _ => ?_) (fun hc => absurd hc (by decide))
                      refine G_aload_n 4 dr_cX17_next_107 rfl ?_
                      refine Gp_get 5 hm19242 he19243 dr_cX17_next_108 (gk_X17 D I) (Nat.le_of_ble_eq_true rfl) wr_7_79 rfl ?_
                      refine G_iload_n 2 dr_cX17_next_111 rfl ?_
                      have hm19301 : (γ 9 5) ∈ P17885 := RS_m hT ht19268 (by decide)
                      obtain ⟨f19303, he19302⟩ := show rk_17 I (F17886 (γ 9 5)) from RS_o hT ht19268
                      refine Gp_iald 0 hm19301 he19302 dr_cX17_next_112 rfl (gB_in bg19236'' (by decide) (by decide)) (G_nam fun z19304 hz19304 => ?_)
                      have bz19304 : gB z19304 (-2147483648) 2147483647 := gB_any z19304
                      refine G_i2l dr_cX17_next_113 (G_namL fun u19305 hu19305 => ?_)
                      refine G_aload_n 4 dr_cX17_next_114 rfl ?_
                      refine Gp_get 16 hm19242 he19243 dr_cX17_next_115 (gk_X17 D I) (Nat.le_of_ble_eq_true rfl) wr_7_90 rfl ?_
                      refine G_iload_n 3 dr_cX17_next_118 rfl ?_
                      have hm19306 : (γ 9 16) ∈ P17885 := RS_m hT ht19273 (by decide)
                      obtain ⟨f19308, he19307⟩ := show rk_19 I (F17886 (γ 9 16)) from RS_o hT ht19273
                      refine Gp_iald 0 hm19306 he19307 dr_cX17_next_119 rfl (gB_in bg19237'' (by decide) (by decide)) (G_nam fun z19309 hz19309 => ?_)
                      have bz19309 : gB z19309 (-2147483648) 2147483647 := gB_any z19309
                      refine G_i2l dr_cX17_next_120 (G_namL fun u19310 hu19310 => ?_)
                      refine G_lmul dr_cX17_next_121 (G_namL fun u19311 hu19311 => ?_)
                      refine G_aload_n 4 dr_cX17_next_122 rfl ?_
                      refine Gp_get 5 hm19242 he19243 dr_cX17_next_123 (gk_X17 D I) (Nat.le_of_ble_eq_true rfl) wr_7_79 rfl ?_
                      refine G_iload_n 3 dr_cX17_next_126 rfl ?_
                      refine Gp_iald 0 hm19301 he19302 dr_cX17_next_127 rfl (gB_in bg19237'' (by decide) (by decide)) (G_nam fun z19312 hz19312 => ?_)
                      have bz19312 : gB z19312 (-2147483648) 2147483647 := gB_any z19312
                      refine G_i2l dr_cX17_next_128 (G_namL fun u19313 hu19313 => ?_)
                      refine G_aload_n 4 dr_cX17_next_129 rfl ?_
                      refine Gp_get 16 hm19242 he19243 dr_cX17_next_130 (gk_X17 D I) (Nat.le_of_ble_eq_true rfl) wr_7_90 rfl ?_
                      refine G_iload_n 2 dr_cX17_next_133 rfl ?_
                      refine Gp_iald 0 hm19306 he19307 dr_cX17_next_134 rfl (gB_in bg19236'' (by decide) (by decide)) (G_nam fun z19314 hz19314 => ?_)
                      have bz19314 : gB z19314 (-2147483648) 2147483647 := gB_any z19314
                      refine G_i2l dr_cX17_next_135 (G_namL fun u19315 hu19315 => ?_)
                      refine G_lmul dr_cX17_next_136 (G_namL fun u19316 hu19316 => ?_)
                      refine G_lcmp dr_cX17_next_137 (G_nam fun z19317 hz19317 => ?_)
                      have bz19317 : gB z19317 (-1) 1 := gB_cmp hz19317
                      refine G_if_ge 145 dr_cX17_next_138 (by decide +kernel) (fun hc19318 => ?_) (fun hc19318 => ?_)
                      · have r19319 : 0 ≤ z19317.toInt := gj_leL hc19318 (show Int32.toInt 0 = 0 by decide)
                        have bz19317' : gB z19317 0 1 := ⟨by omega, by omega⟩
                        refine G_iconst 0 dr_cX17_next_145 (by decide +kernel) ?_
                        refine G_istore (L' := [(6, .int 0), (5, .int 0), (4, .int 0), (3, .int g19236), (2, .int g19237), (0, .ref q17887), (1, .int p17888)]) dr_cX17_next_146 (Nat.le_of_ble_eq_true rfl) rfl ?_
                        refine G_iload 2 dr_cX17_next_148 rfl ?_
                        refine G_if_ne 158 dr_cX17_next_150 (by decide +kernel) (fun hc => absurd hc (by decide)) (fun _ => ?_)
                        refine G_iload 1 dr_cX17_next_153 rfl ?_
                        refine G_if_ne 163 dr_cX17_next_155 (by decide +kernel) (fun hc => absurd hc (by decide)) (fun _ => ?_)
                        refine G_iload 0 dr_cX17_next_158 rfl ?_
                        refine G_if_eq 165 dr_cX17_next_160 (by decide +kernel) (fun _ => ?_) (fun hc => absurd hc (by decide))
                        obtain ⟨z19320, hz19320⟩ : ∃ z : Int32, z = g19236 + Int32.ofInt 1 := ⟨_, rfl⟩
                        have ez19320 : z19320.toInt = g19236.toInt + 1 := gI_inc hz19320 (by decide) bg19236'' (by decide) (by decide)
                        have bz19320 : gB z19320 1 100 := ⟨by omega, by omega⟩
                        refine G_iinc (L' := [(3, .int z19320), (6, .int 0), (5, .int 0), (4, .int 0), (2, .int g19237), (0, .ref q17887), (1, .int p17888)]) z19320 3 dr_cX17_next_165 rfl hz19320.symm (Nat.le_of_ble_eq_true rfl) rfl ?_
                        refine G_goto 40 dr_cX17_next_168 (by decide +kernel) ?_
                        refine G_lv (L' := [(3, .int z19320), (2, .int g19237), (0, .ref q17887), (1, .int p17888)]) [0, 4, 5, 6] rfl ?_
                        exact ih40_19237 z19320 g19237 (gB_w bz19320 (by decide) (by decide)) (gB_w bg19237'' (by decide) (by decide)) (by omega)
                      · have r19321 : z19317.toInt < 0 := gj_nleL hc19318 (show Int32.toInt 0 = 0 by decide)
                        have bz19317' : gB z19317 (-1) (-1) := ⟨by omega, by omega⟩
                        have lhc19318 := gC_cmpS hz19317 (by omega)
                        refine G_iconst 1 dr_cX17_next_141 (by decide +kernel) ?_
                        refine G_goto 146 dr_cX17_next_142 (by decide +kernel) ?_
                        refine G_istore (L' := [(6, .int 1), (5, .int 0), (4, .int 0), (3, .int g19236), (2, .int g19237), (0, .ref q17887), (1, .int p17888)]) dr_cX17_next_146 (Nat.le_of_ble_eq_true rfl) rfl ?_
                        refine G_iload 2 dr_cX17_next_148 rfl ?_
                        refine G_if_ne 158 dr_cX17_next_150 (by decide +kernel) (fun hc => absurd hc (by decide)) (fun _ => ?_)
                        refine G_iload 1 dr_cX17_next_153 rfl ?_
                        refine G_if_ne 163 dr_cX17_next_155 (by decide +kernel) (fun hc => absurd hc (by decide)) (fun _ => ?_)
                        refine G_iload 0 dr_cX17_next_158 rfl ?_
                        refine G_if_eq 165 dr_cX17_next_160 (by decide +kernel) (fun hc => absurd hc (by decide)) (fun _ => ?_)
                        refine G_iload_n 3 dr_cX17_next_163 rfl ?_
                        refine G_istore_n (L' := [(2, .int g19236), (6, .int 1), (5, .int 0), (4, .int 0), (3, .int g19236), (0, .ref q17887), (1, .int p17888)]) dr_cX17_next_164 (Nat.le_of_ble_eq_true rfl) rfl ?_
                        obtain ⟨z19322, hz19322⟩ : ∃ z : Int32, z = g19236 + Int32.ofInt 1 := ⟨_, rfl⟩
                        have ez19322 : z19322.toInt = g19236.toInt + 1 := gI_inc hz19322 (by decide) bg19236'' (by decide) (by decide)
                        have bz19322 : gB z19322 1 100 := ⟨by omega, by omega⟩
                        refine G_iinc (L' := [(3, .int z19322), (2, .int g19236), (6, .int 1), (5, .int 0), (4, .int 0), (0, .ref q17887), (1, .int p17888)]) z19322 4 dr_cX17_next_165 rfl hz19322.symm (Nat.le_of_ble_eq_true rfl) rfl ?_
                        refine G_goto 40 dr_cX17_next_168 (by decide +kernel) ?_
                        refine G_lv (L' := [(3, .int z19322), (2, .int g19236), (0, .ref q17887), (1, .int p17888)]) [0, 1, 5, 6] rfl ?_
                        exact ih40_19237 z19322 g19236 (gB_w bz19322 (by decide) (by decide)) (gB_w bg19236'' (by decide) (by decide)) (by omega)
                    · have r19323 : 100 ≤ g19237.toInt := gj_nlt hc19299 (show Int32.toInt 100 = 100 by decide)
                      have bg19237'' : gB g19237 100 1999 := ⟨by omega, by omega⟩
                      refine G_iconst 1 dr_cX17_next_87 (by decide +kernel) ?_
                      refine G_goto 92 dr_cX17_next_88 (by decide +kernel) ?_
                      refine G_istore (L' := [(5, .int 1), (4, .int 0), (3, .int g19236), (2, .int g19237), (0, .ref q17887), (1, .int p17888)]) dr_cX17_next_92 (Nat.le_of_ble_eq_true rfl) rfl ?_
                      refine G_iload 1 dr_cX17_next_94 rfl ?_
                      refine G_if_eq 107 dr_cX17_next_96 (by decide +kernel) (fun _ => ?_) (fun hc => absurd hc (by decide))
                      refine G_aload_n 4 dr_cX17_next_107 rfl ?_
                      refine Gp_get 5 hm19242 he19243 dr_cX17_next_108 (gk_X17 D I) (Nat.le_of_ble_eq_true rfl) wr_7_79 rfl ?_
                      refine G_iload_n 2 dr_cX17_next_111 rfl ?_
                      have hm19324 : (γ 9 5) ∈ P17885 := RS_m hT ht19268 (by decide)
                      obtain ⟨f19326, he19325⟩ := show rk_17 I (F17886 (γ 9 5)) from RS_o hT ht19268
                      refine Gp_iald 0 hm19324 he19325 dr_cX17_next_112 rfl (gB_in bg19236'' (by decide) (by decide)) (G_nam fun z19327 hz19327 => ?_)
                      have bz19327 : gB z19327 (-2147483648) 2147483647 := gB_any z19327
                      refine G_i2l dr_cX17_next_113 (G_namL fun u19328 hu19328 => ?_)
                      refine G_aload_n 4 dr_cX17_next_114 rfl ?_
                      refine Gp_get 16 hm19242 he19243 dr_cX17_next_115 (gk_X17 D I) (Nat.le_of_ble_eq_true rfl) wr_7_90 rfl ?_
                      refine G_iload_n 3 dr_cX17_next_118 rfl ?_
                      have hm19329 : (γ 9 16) ∈ P17885 := RS_m hT ht19273 (by decide)
                      obtain ⟨f19331, he19330⟩ := show rk_19 I (F17886 (γ 9 16)) from RS_o hT ht19273
                      refine Gp_iald 0 hm19329 he19330 dr_cX17_next_119 rfl (gB_in bg19237'' (by decide) (by decide)) (G_nam fun z19332 hz19332 => ?_)
                      have bz19332 : gB z19332 (-2147483648) 2147483647 := gB_any z19332
                      refine G_i2l dr_cX17_next_120 (G_namL fun u19333 hu19333 => ?_)
                      refine G_lmul dr_cX17_next_121 (G_namL fun u19334 hu19334 => ?_)
                      refine G_aload_n 4 dr_cX17_next_122 rfl ?_
                      refine Gp_get 5 hm19242 he19243 dr_cX17_next_123 (gk_X17 D I) (Nat.le_of_ble_eq_true rfl) wr_7_79 rfl ?_
                      refine G_iload_n 3 dr_cX17_next_126 rfl ?_
                      refine Gp_iald 0 hm19324 he19325 dr_cX17_next_127 rfl (gB_in bg19237'' (by decide) (by decide)) (G_nam fun z19335 hz19335 => ?_)
                      have bz19335 : gB z19335 (-2147483648) 2147483647 := gB_any z19335
                      refine G_i2l dr_cX17_next_128 (G_namL fun u19336 hu19336 => ?_)
                      refine G_aload_n 4 dr_cX17_next_129 rfl ?_
                      refine Gp_get 16 hm19242 he19243 dr_cX17_next_130 (gk_X17 D I) (Nat.le_of_ble_eq_true rfl) wr_7_90 rfl ?_
                      refine G_iload_n 2 dr_cX17_next_133 rfl ?_
                      refine Gp_iald 0 hm19329 he19330 dr_cX17_next_134 rfl (gB_in bg19236'' (by decide) (by decide)) (G_nam fun z19337 hz19337 => ?_)
                      have bz19337 : gB z19337 (-2147483648) 2147483647 := gB_any z19337
                      refine G_i2l dr_cX17_next_135 (G_namL fun u19338 hu19338 => ?_)
                      refine G_lmul dr_cX17_next_136 (G_namL fun u19339 hu19339 => ?_)
                      refine G_lcmp dr_cX17_next_137 (G_nam fun z19340 hz19340 => ?_)
                      have bz19340 : gB z19340 (-1) 1 := gB_cmp hz19340
                      refine G_if_ge 145 dr_cX17_next_138 (by decide +kernel) (fun hc19341 => ?_) (fun hc19341 => ?_)
                      · have r19342 : 0 ≤ z19340.toInt := gj_leL hc19341 (show Int32.toInt 0 = 0 by decide)
                        have bz19340' : gB z19340 0 1 := ⟨by omega, by omega⟩
                        refine G_iconst 0 dr_cX17_next_145 (by decide +kernel) ?_
                        refine G_istore (L' := [(6, .int 0), (5, .int 1), (4, .int 0), (3, .int g19236), (2, .int g19237), (0, .ref q17887), (1, .int p17888)]) dr_cX17_next_146 (Nat.le_of_ble_eq_true rfl) rfl ?_
                        refine G_iload 2 dr_cX17_next_148 rfl ?_
                        refine G_if_ne 158 dr_cX17_next_150 (by decide +kernel) (fun hc => absurd hc (by decide)) (fun _ => ?_)
                        refine G_iload 1 dr_cX17_next_153 rfl ?_
                        refine G_if_ne 163 dr_cX17_next_155 (by decide +kernel) (fun _ => ?_) (fun hc => absurd hc (by decide))
                        refine G_iload_n 3 dr_cX17_next_163 rfl ?_
                        refine G_istore_n (L' := [(2, .int g19236), (6, .int 0), (5, .int 1), (4, .int 0), (3, .int g19236), (0, .ref q17887), (1, .int p17888)]) dr_cX17_next_164 (Nat.le_of_ble_eq_true rfl) rfl ?_
                        obtain ⟨z19343, hz19343⟩ : ∃ z : Int32, z = g19236 + Int32.ofInt 1 := ⟨_, rfl⟩
                        have ez19343 : z19343.toInt = g19236.toInt + 1 := gI_inc hz19343 (by decide) bg19236'' (by decide) (by decide)
                        have bz19343 : gB z19343 1 100 := ⟨by omega, by omega⟩
                        refine G_iinc (L' := [(3, .int z19343), (2, .int g19236), (6, .int 0), (5, .int 1), (4, .int 0), (0, .ref q17887), (1, .int p17888)]) z19343 4 dr_cX17_next_165 rfl hz19343.symm (Nat.le_of_ble_eq_true rfl) rfl ?_
                        refine G_goto 40 dr_cX17_next_168 (by decide +kernel) ?_
                        refine G_lv (L' := [(3, .int z19343), (2, .int g19236), (0, .ref q17887), (1, .int p17888)]) [0, 1, 5, 6] rfl ?_
                        exact ih40_19237 z19343 g19236 (gB_w bz19343 (by decide) (by decide)) (gB_w bg19236'' (by decide) (by decide)) (by omega)
                      · have r19344 : z19340.toInt < 0 := gj_nleL hc19341 (show Int32.toInt 0 = 0 by decide)
                        have bz19340' : gB z19340 (-1) (-1) := ⟨by omega, by omega⟩
                        have lhc19341 := gC_cmpS hz19340 (by omega)
                        refine G_iconst 1 dr_cX17_next_141 (by decide +kernel) ?_
                        refine G_goto 146 dr_cX17_next_142 (by decide +kernel) ?_
                        refine G_istore (L' := [(6, .int 1), (5, .int 1), (4, .int 0), (3, .int g19236), (2, .int g19237), (0, .ref q17887), (1, .int p17888)]) dr_cX17_next_146 (Nat.le_of_ble_eq_true rfl) rfl ?_
                        refine G_iload 2 dr_cX17_next_148 rfl ?_
                        refine G_if_ne 158 dr_cX17_next_150 (by decide +kernel) (fun hc => absurd hc (by decide)) (fun _ => ?_)
                        refine G_iload 1 dr_cX17_next_153 rfl ?_
                        refine G_if_ne 163 dr_cX17_next_155 (by decide +kernel) (fun _ => ?_) (fun hc => absurd hc (by decide))
                        refine G_iload_n 3 dr_cX17_next_163 rfl ?_
                        refine G_istore_n (L' := [(2, .int g19236), (6, .int 1), (5, .int 1), (4, .int 0), (3, .int g19236), (0, .ref q17887), (1, .int p17888)]) dr_cX17_next_164 (Nat.le_of_ble_eq_true rfl) rfl ?_
                        obtain ⟨z19345, hz19345⟩ : ∃ z : Int32, z = g19236 + Int32.ofInt 1 := ⟨_, rfl⟩
                        have ez19345 : z19345.toInt = g19236.toInt + 1 := gI_inc hz19345 (by decide) bg19236'' (by decide) (by decide)
                        have bz19345 : gB z19345 1 100 := ⟨by omega, by omega⟩
                        refine G_iinc (L' := [(3, .int z19345), (2, .int g19236), (6, .int 1), (5, .int 1), (4, .int 0), (0, .ref q17887), (1, .int p17888)]) z19345 4 dr_cX17_next_165 rfl hz19345.symm (Nat.le_of_ble_eq_true rfl) rfl ?_
                        refine G_goto 40 dr_cX17_next_168 (by decide +kernel) ?_
                        refine G_lv (L' := [(3, .int z19345), (2, .int g19236), (0, .ref q17887), (1, .int p17888)]) [0, 1, 5, 6] rfl ?_
                        exact ih40_19237 z19345 g19236 (gB_w bz19345 (by decide) (by decide)) (gB_w bg19236'' (by decide) (by decide)) (by omega)
                  · have r19346 : 100 ≤ g19236.toInt := gj_nlt hc19297 (show Int32.toInt 100 = 100 by decide)
                    have bg19236'' : gB g19236 100 1999 := ⟨by omega, by omega⟩
                    refine G_iconst 1 dr_cX17_next_74 (by decide +kernel) ?_
                    refine G_goto 79 dr_cX17_next_75 (by decide +kernel) ?_
                    refine G_istore (L' := [(4, .int 1), (3, .int g19236), (2, .int g19237), (0, .ref q17887), (1, .int p17888)]) dr_cX17_next_79 (Nat.le_of_ble_eq_true rfl) rfl ?_
                    refine G_iload_n 2 dr_cX17_next_81 rfl ?_
                    refine G_bipush 100 dr_cX17_next_82 (by decide +kernel) ?_
                    refine G_icmp_lt 91 dr_cX17_next_84 (by decide +kernel) (fun hc19347 => ?_) (fun hc19347 => ?_)
                    · have r19348 : g19237.toInt < 100 := gj_lt hc19347 (show Int32.toInt 100 = 100 by decide)
                      have bg19237'' : gB g19237 0 99 := ⟨by omega, by omega⟩
                      refine G_iconst 0 dr_cX17_next_91 (by decide +kernel) ?_
                      refine G_istore (L' := [(5, .int 0), (4, .int 1), (3, .int g19236), (2, .int g19237), (0, .ref q17887), (1, .int p17888)]) dr_cX17_next_92 (Nat.le_of_ble_eq_true rfl) rfl ?_
                      refine G_iload 1 dr_cX17_next_94 rfl ?_
                      refine G_if_eq 107 dr_cX17_next_96 (by decide +kernel) (fun hc => absurd hc (by decide)) (fun _ => ?_)
                      refine G_iload 0 dr_cX17_next_99 rfl ?_
                      refine G_if_ne 107 dr_cX17_next_101 (by decide +kernel) (fun hc => absurd hc (by decide)) (fun _ => ?_)
                      refine G_goto 165 dr_cX17_next_104 (by decide +kernel) ?_
                      obtain ⟨z19349, hz19349⟩ : ∃ z : Int32, z = g19236 + Int32.ofInt 1 := ⟨_, rfl⟩
                      have ez19349 : z19349.toInt = g19236.toInt + 1 := gI_inc hz19349 (by decide) bg19236'' (by decide) (by decide)
                      have bz19349 : gB z19349 101 2000 := ⟨by omega, by omega⟩
                      refine G_iinc (L' := [(3, .int z19349), (5, .int 0), (4, .int 1), (2, .int g19237), (0, .ref q17887), (1, .int p17888)]) z19349 2 dr_cX17_next_165 rfl hz19349.symm (Nat.le_of_ble_eq_true rfl) rfl ?_
                      refine G_goto 40 dr_cX17_next_168 (by decide +kernel) ?_
                      refine G_lv (L' := [(3, .int z19349), (2, .int g19237), (0, .ref q17887), (1, .int p17888)]) [0, 3, 4, 5] rfl ?_
                      exact ih40_19237 z19349 g19237 (gB_w bz19349 (by decide) (by decide)) (gB_w bg19237'' (by decide) (by decide)) (by omega)
                    · have r19350 : 100 ≤ g19237.toInt := gj_nlt hc19347 (show Int32.toInt 100 = 100 by decide)
                      have bg19237'' : gB g19237 100 1999 := ⟨by omega, by omega⟩
                      refine G_iconst 1 dr_cX17_next_87 (by decide +kernel) ?_
                      refine G_goto 92 dr_cX17_next_88 (by decide +kernel) ?_
                      refine G_istore (L' := [(5, .int 1), (4, .int 1), (3, .int g19236), (2, .int g19237), (0, .ref q17887), (1, .int p17888)]) dr_cX17_next_92 (Nat.le_of_ble_eq_true rfl) rfl ?_
                      refine G_iload 1 dr_cX17_next_94 rfl ?_
                      refine G_if_eq 107 dr_cX17_next_96 (by decide +kernel) (fun hc => absurd hc (by decide)) (fun _ => ?_)
                      refine G_iload 0 dr_cX17_next_99 rfl ?_
                      refine G_if_ne 107 dr_cX17_next_101 (by decide +kernel) (fun _ => ?_) (fun hc => absurd hc (by decide))
                      refine G_aload_n 4 dr_cX17_next_107 rfl ?_
                      refine Gp_get 5 hm19242 he19243 dr_cX17_next_108 (gk_X17 D I) (Nat.le_of_ble_eq_true rfl) wr_7_79 rfl ?_
                      refine G_iload_n 2 dr_cX17_next_111 rfl ?_
                      have hm19351 : (γ 9 5) ∈ P17885 := RS_m hT ht19268 (by decide)
                      obtain ⟨f19353, he19352⟩ := show rk_17 I (F17886 (γ 9 5)) from RS_o hT ht19268
                      refine Gp_iald 0 hm19351 he19352 dr_cX17_next_112 rfl (gB_in bg19236'' (by decide) (by decide)) (G_nam fun z19354 hz19354 => ?_)
                      have bz19354 : gB z19354 (-2147483648) 2147483647 := gB_any z19354
                      refine G_i2l dr_cX17_next_113 (G_namL fun u19355 hu19355 => ?_)
                      refine G_aload_n 4 dr_cX17_next_114 rfl ?_
                      refine Gp_get 16 hm19242 he19243 dr_cX17_next_115 (gk_X17 D I) (Nat.le_of_ble_eq_true rfl) wr_7_90 rfl ?_
                      refine G_iload_n 3 dr_cX17_next_118 rfl ?_
                      have hm19356 : (γ 9 16) ∈ P17885 := RS_m hT ht19273 (by decide)
                      obtain ⟨f19358, he19357⟩ := show rk_19 I (F17886 (γ 9 16)) from RS_o hT ht19273
                      refine Gp_iald 0 hm19356 he19357 dr_cX17_next_119 rfl (gB_in bg19237'' (by decide) (by decide)) (G_nam fun z19359 hz19359 => ?_)
                      have bz19359 : gB z19359 (-2147483648) 2147483647 := gB_any z19359
                      refine G_i2l dr_cX17_next_120 (G_namL fun u19360 hu19360 => ?_)
                      refine G_lmul dr_cX17_next_121 (G_namL fun u19361 hu19361 => ?_)
                      refine G_aload_n 4 dr_cX17_next_122 rfl ?_
                      refine Gp_get 5 hm19242 he19243 dr_cX17_next_123 (gk_X17 D I) (Nat.le_of_ble_eq_true rfl) wr_7_79 rfl ?_
                      refine G_iload_n 3 dr_cX17_next_126 rfl ?_
                      refine Gp_iald 0 hm19351 he19352 dr_cX17_next_127 rfl (gB_in bg19237'' (by decide) (by decide)) (G_nam fun z19362 hz19362 => ?_)
                      have bz19362 : gB z19362 (-2147483648) 2147483647 := gB_any z19362
                      refine G_i2l dr_cX17_next_128 (G_namL fun u19363 hu19363 => ?_)
                      refine G_aload_n 4 dr_cX17_next_129 rfl ?_
                      refine Gp_get 16 hm19242 he19243 dr_cX17_next_130 (gk_X17 D I) (Nat.le_of_ble_eq_true rfl) wr_7_90 rfl ?_
                      refine G_iload_n 2 dr_cX17_next_133 rfl ?_
                      refine Gp_iald 0 hm19356 he19357 dr_cX17_next_134 rfl (gB_in bg19236'' (by decide) (by decide)) (G_nam fun z19364 hz19364 => ?_)
                      have bz19364 : gB z19364 (-2147483648) 2147483647 := gB_any z19364
                      refine G_i2l dr_cX17_next_135 (G_namL fun u19365 hu19365 => ?_)
                      refine G_lmul dr_cX17_next_136 (G_namL fun u19366 hu19366 => ?_)
                      refine G_lcmp dr_cX17_next_137 (G_nam fun z19367 hz19367 => ?_)
                      have bz19367 : gB z19367 (-1) 1 := gB_cmp hz19367
                      refine G_if_ge 145 dr_cX17_next_138 (by decide +kernel) (fun hc19368 => ?_) (fun hc19368 => ?_)
                      · have r19369 : 0 ≤ z19367.toInt := gj_leL hc19368 (show Int32.toInt 0 = 0 by decide)
                        have bz19367' : gB z19367 0 1 := ⟨by omega, by omega⟩
                        refine G_iconst 0 dr_cX17_next_145 (by decide +kernel) ?_
                        refine G_istore (L' := [(6, .int 0), (5, .int 1), (4, .int 1), (3, .int g19236), (2, .int g19237), (0, .ref q17887), (1, .int p17888)]) dr_cX17_next_146 (Nat.le_of_ble_eq_true rfl) rfl ?_
                        refine G_iload 2 dr_cX17_next_148 rfl ?_
                        refine G_if_ne 158 dr_cX17_next_150 (by decide +kernel) (fun _ => ?_) (fun hc => absurd hc (by decide))
                        refine G_iload 0 dr_cX17_next_158 rfl ?_
                        refine G_if_eq 165 dr_cX17_next_160 (by decide +kernel) (fun _ => ?_) (fun hc => absurd hc (by decide))
                        obtain ⟨z19370, hz19370⟩ : ∃ z : Int32, z = g19236 + Int32.ofInt 1 := ⟨_, rfl⟩
                        have ez19370 : z19370.toInt = g19236.toInt + 1 := gI_inc hz19370 (by decide) bg19236'' (by decide) (by decide)
                        have bz19370 : gB z19370 101 2000 := ⟨by omega, by omega⟩
                        refine G_iinc (L' := [(3, .int z19370), (6, .int 0), (5, .int 1), (4, .int 1), (2, .int g19237), (0, .ref q17887), (1, .int p17888)]) z19370 3 dr_cX17_next_165 rfl hz19370.symm (Nat.le_of_ble_eq_true rfl) rfl ?_
                        refine G_goto 40 dr_cX17_next_168 (by decide +kernel) ?_
                        refine G_lv (L' := [(3, .int z19370), (2, .int g19237), (0, .ref q17887), (1, .int p17888)]) [0, 4, 5, 6] rfl ?_
                        exact ih40_19237 z19370 g19237 (gB_w bz19370 (by decide) (by decide)) (gB_w bg19237'' (by decide) (by decide)) (by omega)
                      · have r19371 : z19367.toInt < 0 := gj_nleL hc19368 (show Int32.toInt 0 = 0 by decide)
                        have bz19367' : gB z19367 (-1) (-1) := ⟨by omega, by omega⟩
                        have lhc19368 := gC_cmpS hz19367 (by omega)
                        refine G_iconst 1 dr_cX17_next_141 (by decide +kernel) ?_
                        refine G_goto 146 dr_cX17_next_142 (by decide +kernel) ?_
                        refine G_istore (L' := [(6, .int 1), (5, .int 1), (4, .int 1), (3, .int g19236), (2, .int g19237), (0, .ref q17887), (1, .int p17888)]) dr_cX17_next_146 (Nat.le_of_ble_eq_true rfl) rfl ?_
                        refine G_iload 2 dr_cX17_next_148 rfl ?_
                        refine G_if_ne 158 dr_cX17_next_150 (by decide +kernel) (fun _ => ?_) (fun hc => absurd hc (by decide))
                        refine G_iload 0 dr_cX17_next_158 rfl ?_
                        refine G_if_eq 165 dr_cX17_next_160 (by decide +kernel) (fun hc => absurd hc (by decide)) (fun _ => ?_)
                        refine G_iload_n 3 dr_cX17_next_163 rfl ?_
                        refine G_istore_n (L' := [(2, .int g19236), (6, .int 1), (5, .int 1), (4, .int 1), (3, .int g19236), (0, .ref q17887), (1, .int p17888)]) dr_cX17_next_164 (Nat.le_of_ble_eq_true rfl) rfl ?_
                        obtain ⟨z19372, hz19372⟩ : ∃ z : Int32, z = g19236 + Int32.ofInt 1 := ⟨_, rfl⟩
                        have ez19372 : z19372.toInt = g19236.toInt + 1 := gI_inc hz19372 (by decide) bg19236'' (by decide) (by decide)
                        have bz19372 : gB z19372 101 2000 := ⟨by omega, by omega⟩
                        refine G_iinc (L' := [(3, .int z19372), (2, .int g19236), (6, .int 1), (5, .int 1), (4, .int 1), (0, .ref q17887), (1, .int p17888)]) z19372 4 dr_cX17_next_165 rfl hz19372.symm (Nat.le_of_ble_eq_true rfl) rfl ?_
                        refine G_goto 40 dr_cX17_next_168 (by decide +kernel) ?_
                        refine G_lv (L' := [(3, .int z19372), (2, .int g19236), (0, .ref q17887), (1, .int p17888)]) [0, 1, 5, 6] rfl ?_
                        exact ih40_19237 z19372 g19236 (gB_w bz19372 (by decide) (by decide)) (gB_w bg19236'' (by decide) (by decide)) (by omega)
                · have r19373 : g19237.toInt < 0 := gj_nleL hc19295 (show Int32.toInt 0 = 0 by decide)
                  have bg19237' : gB g19237 (-1) (-1) := ⟨by omega, by omega⟩
                  refine G_iload_n 0 dr_cX17_next_63 rfl ?_
                  refine G_istore_n (L' := [(2, .int g19236), (3, .int g19236), (0, .ref q17887), (1, .int p17888)]) dr_cX17_next_64 (Nat.le_of_ble_eq_true rfl) rfl ?_
                  refine G_goto 165 dr_cX17_next_65 (by decide +kernel) ?_
                  obtain ⟨z19374, hz19374⟩ : ∃ z : Int32, z = g19236 + Int32.ofInt 1 := ⟨_, rfl⟩
                  have ez19374 : z19374.toInt = g19236.toInt + 1 := gI_inc hz19374 (by decide) bg19236' (by decide) (by decide)
                  have bz19374 : gB z19374 1 2000 := ⟨by omega, by omega⟩
                  refine G_iinc (L' := [(3, .int z19374), (2, .int g19236), (0, .ref q17887), (1, .int p17888)]) z19374 1 dr_cX17_next_165 rfl hz19374.symm (Nat.le_of_ble_eq_true rfl) rfl ?_
                  refine G_goto 40 dr_cX17_next_168 (by decide +kernel) ?_
                  exact ih40_19237 z19374 g19236 (gB_w bz19374 (by decide) (by decide)) (gB_w bg19236' (by decide) (by decide)) (by omega)
              · have r19375 : z19292.toInt = 0 := gj_eq hc19293 (show Int32.toInt 0 = 0 by decide)
                have bz19292' : gB z19292 0 0 := ⟨by omega, by omega⟩
                refine G_goto 165 dr_cX17_next_56 (by decide +kernel) ?_
                obtain ⟨z19376, hz19376⟩ : ∃ z : Int32, z = g19236 + Int32.ofInt 1 := ⟨_, rfl⟩
                have ez19376 : z19376.toInt = g19236.toInt + 1 := gI_inc hz19376 (by decide) bg19236' (by decide) (by decide)
                have bz19376 : gB z19376 1 2000 := ⟨by omega, by omega⟩
                refine G_iinc (L' := [(3, .int z19376), (2, .int g19237), (0, .ref q17887), (1, .int p17888)]) z19376 0 dr_cX17_next_165 rfl hz19376.symm (Nat.le_of_ble_eq_true rfl) rfl ?_
                refine G_goto 40 dr_cX17_next_168 (by decide +kernel) ?_
                exact ih40_19237 z19376 g19237 (gB_w bz19376 (by decide) (by decide)) bg19237 (by omega)
        exact hlp40_19237 (((2001 : Int) - 0).toNat + 1) 0 (-1) (gB_w (gBl (show Int32.toInt 0 = 0 by decide)) (by decide) (by decide)) (gB_w (gBl (show Int32.toInt (-1) = (-1) by decide)) (by decide) (by decide)) (Nat.lt_succ_self _)
      · have r19377 : g19092.toInt < 2000 := gj_nleL hc19094 (show Int32.toInt 2000 = 2000 by decide)
        have bg19092' : gB g19092 0 1999 := ⟨by omega, by omega⟩
        refine G_aload_n 1 dr_cX17_next_9 rfl ?_
        have hm19378 : q17887 ∈ P17885 := RS_m hT htq17887 (by decide)
        obtain ⟨q19380, q19381, p19382, p19383, p19384, p19385, p19386, p19387, p19388, p19389, p19390, p19391, p19392, p19393, p19394, p19395, p19396, he19379, hB19423, ht19397, ht19398, ht19399, ht19400, ht19401, ht19402, ht19403, ht19404, ht19405, ht19406, ht19407, ht19408, ht19409, ht19410, ht19411, ht19412, ht19413, ht19414, ht19415, ht19416, ht19417, ht19418, ht19419, ht19420, hB19424⟩ := show rk_10 γ (F17886 q17887) from RS_o hT htq17887
        refine Gp_get 18 hm19378 he19379 dr_cX17_next_10 (gk_X17 D I) (Nat.le_of_ble_eq_true rfl) wr_7_92 rfl ?_
        refine G_iload_n 0 dr_cX17_next_13 rfl ?_
        have hm19425 : (γ 9 18) ∈ P17885 := RS_m hT ht19411 (by decide)
        obtain ⟨f19427, he19426, bf19427⟩ := show rk_15 I (F17886 (γ 9 18)) from RS_o hT ht19411
        refine Gp_zald 3 hm19425 he19426 dr_cX17_next_14 rfl (gB_in bg19092' (by decide) (by decide)) (G_nam fun z19428 hz19428 => ?_)
        have bz19428 : gB z19428 0 1 := by rw [hz19428]; exact bf19427 _
        refine G_if_eq 30 dr_cX17_next_15 (by decide +kernel) (fun hc19429 => ?_) (fun hc19429 => ?_)
        · have r19430 : z19428.toInt = 0 := gj_eq hc19429 (show Int32.toInt 0 = 0 by decide)
          have bz19428' : gB z19428 0 0 := ⟨by omega, by omega⟩
          obtain ⟨z19431, hz19431⟩ : ∃ z : Int32, z = g19092 + Int32.ofInt 1 := ⟨_, rfl⟩
          have ez19431 : z19431.toInt = g19092.toInt + 1 := gI_inc hz19431 (by decide) bg19092' (by decide) (by decide)
          have bz19431 : gB z19431 1 2000 := ⟨by omega, by omega⟩
          refine G_iinc (L' := [(2, .int z19431), (0, .ref q17887), (1, .int p17888)]) z19431 0 dr_cX17_next_30 rfl hz19431.symm (Nat.le_of_ble_eq_true rfl) rfl ?_
          refine G_goto 2 dr_cX17_next_33 (by decide +kernel) ?_
          exact ih2_19092 z19431 (gB_w bz19431 (by decide) (by decide)) (by omega)
        · have r19432 : z19428.toInt ≠ 0 := gj_neq hc19429 (show Int32.toInt 0 = 0 by decide)
          have bz19428' : gB z19428 1 1 := ⟨by omega, by omega⟩
          refine G_aload_n 1 dr_cX17_next_18 rfl ?_
          refine Gp_get 16 hm19378 he19379 dr_cX17_next_19 (gk_X17 D I) (Nat.le_of_ble_eq_true rfl) wr_7_90 rfl ?_
          refine G_iload_n 0 dr_cX17_next_22 rfl ?_
          have hm19433 : (γ 9 16) ∈ P17885 := RS_m hT ht19409 (by decide)
          obtain ⟨f19435, he19434⟩ := show rk_19 I (F17886 (γ 9 16)) from RS_o hT ht19409
          refine Gp_iald 0 hm19433 he19434 dr_cX17_next_23 rfl (gB_in bg19092' (by decide) (by decide)) (G_nam fun z19436 hz19436 => ?_)
          have bz19436 : gB z19436 (-2147483648) 2147483647 := gB_any z19436
          refine G_iload_n 2 dr_cX17_next_24 rfl ?_
          refine G_icmp_ge 30 dr_cX17_next_25 (by decide +kernel) (fun hc19437 => ?_) (fun hc19437 => ?_)
          · have r19438 : p17888.toInt ≤ z19436.toInt := gC_le hc19437
            obtain ⟨z19439, hz19439⟩ : ∃ z : Int32, z = g19092 + Int32.ofInt 1 := ⟨_, rfl⟩
            have ez19439 : z19439.toInt = g19092.toInt + 1 := gI_inc hz19439 (by decide) bg19092' (by decide) (by decide)
            have bz19439 : gB z19439 1 2000 := ⟨by omega, by omega⟩
            refine G_iinc (L' := [(2, .int z19439), (0, .ref q17887), (1, .int p17888)]) z19439 0 dr_cX17_next_30 rfl hz19439.symm (Nat.le_of_ble_eq_true rfl) rfl ?_
            refine G_goto 2 dr_cX17_next_33 (by decide +kernel) ?_
            exact ih2_19092 z19439 (gB_w bz19439 (by decide) (by decide)) (by omega)
          · have r19440 : z19436.toInt < p17888.toInt := gC_nle hc19437
            have bz19436' : gB z19436 (-2147483648) 2147483646 := ⟨by omega, by omega⟩
            have bp17888' : gB p17888 (-2147483647) 2147483647 := ⟨by omega, by omega⟩
            refine G_iload_n 0 dr_cX17_next_28 rfl ?_
            exact G_iretA dr_cX17_next_29 rfl (Nat.le_of_ble_eq_true rfl) (Nat.le_of_ble_eq_true rfl) ⟨g19092, rfl, rfl, (Nat.le_of_ble_eq_true rfl), (Nat.le_of_ble_eq_true rfl), (gB_w bg19092' (by decide) (by decide))⟩
  exact hlp2_19092 (((2001 : Int) - 0).toNat + 1) 0 (gB_w (gBl (show Int32.toInt 0 = 0 by decide)) (by decide) (by decide)) (Nat.lt_succ_self _)
