theorem dr_cX17_mayMerge_0 : decode cX17_mayMerge 0 = .ok (.iload_n 1, 1) := by decide +kernel
theorem dr_cX17_mayMerge_1 : decode cX17_mayMerge 1 = .ok (.bipush 100, 2) := by decide +kernel
theorem dr_cX17_mayMerge_3 : decode cX17_mayMerge 3 = .ok (.if_icmp .ge 22, 3) := by decide +kernel
theorem dr_cX17_mayMerge_25 : decode cX17_mayMerge 25 = .ok (.iconst 0, 1) := by decide +kernel
theorem dr_cX17_mayMerge_26 : decode cX17_mayMerge 26 = .ok (.ireturn, 1) := by decide +kernel
theorem dr_cX17_mayMerge_6 : decode cX17_mayMerge 6 = .ok (.iload_n 2, 1) := by decide +kernel
theorem dr_cX17_mayMerge_7 : decode cX17_mayMerge 7 = .ok (.bipush 100, 2) := by decide +kernel
theorem dr_cX17_mayMerge_9 : decode cX17_mayMerge 9 = .ok (.if_icmp .ge 16, 3) := by decide +kernel
theorem dr_cX17_mayMerge_12 : decode cX17_mayMerge 12 = .ok (.aload_n 0, 1) := by decide +kernel
theorem dr_cX17_mayMerge_13 : decode cX17_mayMerge 13 = .ok (.getfield 135, 3) := by decide +kernel
theorem wr_7_75 : (Jvm.Cond.fieldLink "SpillForgeModel" (135 : Nat) "SpillForgeModel" "joined" "[[J") ∈ gw := gw_7 75 rfl rfl
theorem dr_cX17_mayMerge_16 : decode cX17_mayMerge 16 = .ok (.iload_n 1, 1) := by decide +kernel
theorem dr_cX17_mayMerge_17 : decode cX17_mayMerge 17 = .ok (.aaload, 1) := by decide +kernel
theorem dr_cX17_mayMerge_18 : decode cX17_mayMerge 18 = .ok (.iload_n 2, 1) := by decide +kernel
theorem dr_cX17_mayMerge_19 : decode cX17_mayMerge 19 = .ok (.invokestatic 145, 3) := by decide +kernel
theorem wr_10_203 : (Jvm.Cond.methodLink "SpillForgeModel" (145 : Nat) ({ cls := "SpillForgeModel", name := "has", desc := "([JI)Z" } : Jvm.MethodName)) ∈ gw := gw_10 203 rfl rfl
theorem wr_10_205 : (Jvm.Cond.code ({ cls := "SpillForgeModel", name := "has", desc := "([JI)Z" } : Jvm.MethodName) prog_14_method_2_code (2 : Nat) (Option.some Jvm.ClassFile.FieldType.boolean)) ∈ gw := gw_10 205 rfl rfl
theorem wr_10_204 : (Jvm.Cond.static ({ cls := "SpillForgeModel", name := "has", desc := "([JI)Z" } : Jvm.MethodName)) ∈ gw := gw_10 204 rfl rfl
theorem dr_cX17_mayMerge_22 : decode cX17_mayMerge 22 = .ok (.ifCond .eq 5, 3) := by decide +kernel
theorem dr_cX17_mayMerge_27 : decode cX17_mayMerge 27 = .ok (.iconst 0, 1) := by decide +kernel
theorem dr_cX17_mayMerge_28 : decode cX17_mayMerge 28 = .ok (.istore 4, 2) := by decide +kernel
theorem dr_cX17_mayMerge_30 : decode cX17_mayMerge 30 = .ok (.iconst 0, 1) := by decide +kernel
theorem dr_cX17_mayMerge_31 : decode cX17_mayMerge 31 = .ok (.istore 5, 2) := by decide +kernel
theorem dr_cX17_mayMerge_33 : decode cX17_mayMerge 33 = .ok (.iload 5, 2) := by decide +kernel
theorem dr_cX17_mayMerge_35 : decode cX17_mayMerge 35 = .ok (.sipush 2000, 3) := by decide +kernel
theorem dr_cX17_mayMerge_38 : decode cX17_mayMerge 38 = .ok (.if_icmp .ge 88, 3) := by decide +kernel
theorem dr_cX17_mayMerge_126 : decode cX17_mayMerge 126 = .ok (.iload 4, 2) := by decide +kernel
theorem dr_cX17_mayMerge_128 : decode cX17_mayMerge 128 = .ok (.iload_n 3, 1) := by decide +kernel
theorem dr_cX17_mayMerge_129 : decode cX17_mayMerge 129 = .ok (.if_icmp .ge 7, 3) := by decide +kernel
theorem dr_cX17_mayMerge_136 : decode cX17_mayMerge 136 = .ok (.iconst 0, 1) := by decide +kernel
theorem dr_cX17_mayMerge_137 : decode cX17_mayMerge 137 = .ok (.ireturn, 1) := by decide +kernel
theorem dr_cX17_mayMerge_132 : decode cX17_mayMerge 132 = .ok (.iconst 1, 1) := by decide +kernel
theorem dr_cX17_mayMerge_133 : decode cX17_mayMerge 133 = .ok (.goto 4, 3) := by decide +kernel
theorem dr_cX17_mayMerge_41 : decode cX17_mayMerge 41 = .ok (.aload_n 0, 1) := by decide +kernel
theorem dr_cX17_mayMerge_42 : decode cX17_mayMerge 42 = .ok (.getfield 135, 3) := by decide +kernel
theorem dr_cX17_mayMerge_45 : decode cX17_mayMerge 45 = .ok (.iload_n 1, 1) := by decide +kernel
theorem dr_cX17_mayMerge_46 : decode cX17_mayMerge 46 = .ok (.aaload, 1) := by decide +kernel
theorem dr_cX17_mayMerge_47 : decode cX17_mayMerge 47 = .ok (.iload 5, 2) := by decide +kernel
theorem dr_cX17_mayMerge_49 : decode cX17_mayMerge 49 = .ok (.invokestatic 145, 3) := by decide +kernel
theorem dr_cX17_mayMerge_52 : decode cX17_mayMerge 52 = .ok (.istore 6, 2) := by decide +kernel
theorem dr_cX17_mayMerge_54 : decode cX17_mayMerge 54 = .ok (.aload_n 0, 1) := by decide +kernel
theorem dr_cX17_mayMerge_55 : decode cX17_mayMerge 55 = .ok (.getfield 135, 3) := by decide +kernel
theorem dr_cX17_mayMerge_58 : decode cX17_mayMerge 58 = .ok (.iload_n 2, 1) := by decide +kernel
theorem dr_cX17_mayMerge_59 : decode cX17_mayMerge 59 = .ok (.aaload, 1) := by decide +kernel
theorem dr_cX17_mayMerge_60 : decode cX17_mayMerge 60 = .ok (.iload 5, 2) := by decide +kernel
theorem dr_cX17_mayMerge_62 : decode cX17_mayMerge 62 = .ok (.invokestatic 145, 3) := by decide +kernel
theorem dr_cX17_mayMerge_65 : decode cX17_mayMerge 65 = .ok (.istore 7, 2) := by decide +kernel
theorem dr_cX17_mayMerge_67 : decode cX17_mayMerge 67 = .ok (.iload 6, 2) := by decide +kernel
theorem dr_cX17_mayMerge_69 : decode cX17_mayMerge 69 = .ok (.ifCond .ne 11, 3) := by decide +kernel
theorem dr_cX17_mayMerge_72 : decode cX17_mayMerge 72 = .ok (.iload 7, 2) := by decide +kernel
theorem dr_cX17_mayMerge_74 : decode cX17_mayMerge 74 = .ok (.ifCond .ne 6, 3) := by decide +kernel
theorem dr_cX17_mayMerge_77 : decode cX17_mayMerge 77 = .ok (.goto 43, 3) := by decide +kernel
theorem dr_cX17_mayMerge_120 : decode cX17_mayMerge 120 = .ok (.iinc 5 1, 3) := by decide +kernel
theorem dr_cX17_mayMerge_123 : decode cX17_mayMerge 123 = .ok (.goto (-90), 3) := by decide +kernel
theorem dr_cX17_mayMerge_80 : decode cX17_mayMerge 80 = .ok (.iload 4, 2) := by decide +kernel
theorem dr_cX17_mayMerge_82 : decode cX17_mayMerge 82 = .ok (.aload_n 0, 1) := by decide +kernel
theorem dr_cX17_mayMerge_83 : decode cX17_mayMerge 83 = .ok (.getfield 135, 3) := by decide +kernel
theorem dr_cX17_mayMerge_86 : decode cX17_mayMerge 86 = .ok (.iload 5, 2) := by decide +kernel
theorem dr_cX17_mayMerge_88 : decode cX17_mayMerge 88 = .ok (.aaload, 1) := by decide +kernel
theorem dr_cX17_mayMerge_89 : decode cX17_mayMerge 89 = .ok (.invokestatic 202, 3) := by decide +kernel
theorem wr_11_16 : (Jvm.Cond.methodLink "SpillForgeModel" (202 : Nat) ({ cls := "SpillForgeModel", name := "count", desc := "([J)I" } : Jvm.MethodName)) ∈ gw := gw_11 16 rfl rfl
theorem wr_11_18 : (Jvm.Cond.code ({ cls := "SpillForgeModel", name := "count", desc := "([J)I" } : Jvm.MethodName) prog_14_method_5_code (3 : Nat) (Option.some Jvm.ClassFile.FieldType.int)) ∈ gw := gw_11 18 rfl rfl
theorem wr_11_17 : (Jvm.Cond.static ({ cls := "SpillForgeModel", name := "count", desc := "([J)I" } : Jvm.MethodName)) ∈ gw := gw_11 17 rfl rfl
theorem dr_cX17_mayMerge_92 : decode cX17_mayMerge 92 = .ok (.iload 6, 2) := by decide +kernel
theorem dr_cX17_mayMerge_94 : decode cX17_mayMerge 94 = .ok (.ifCond .eq 12, 3) := by decide +kernel
theorem dr_cX17_mayMerge_106 : decode cX17_mayMerge 106 = .ok (.iconst 0, 1) := by decide +kernel
theorem dr_cX17_mayMerge_107 : decode cX17_mayMerge 107 = .ok (.isub, 1) := by decide +kernel
theorem dr_cX17_mayMerge_108 : decode cX17_mayMerge 108 = .ok (.iload_n 3, 1) := by decide +kernel
theorem dr_cX17_mayMerge_109 : decode cX17_mayMerge 109 = .ok (.if_icmp .lt 7, 3) := by decide +kernel
theorem dr_cX17_mayMerge_116 : decode cX17_mayMerge 116 = .ok (.iconst 0, 1) := by decide +kernel
theorem dr_cX17_mayMerge_117 : decode cX17_mayMerge 117 = .ok (.iadd, 1) := by decide +kernel
theorem dr_cX17_mayMerge_118 : decode cX17_mayMerge 118 = .ok (.istore 4, 2) := by decide +kernel
theorem dr_cX17_mayMerge_112 : decode cX17_mayMerge 112 = .ok (.iconst 1, 1) := by decide +kernel
theorem dr_cX17_mayMerge_113 : decode cX17_mayMerge 113 = .ok (.goto 4, 3) := by decide +kernel
theorem dr_cX17_mayMerge_97 : decode cX17_mayMerge 97 = .ok (.iload 7, 2) := by decide +kernel
theorem dr_cX17_mayMerge_99 : decode cX17_mayMerge 99 = .ok (.ifCond .eq 7, 3) := by decide +kernel
theorem dr_cX17_mayMerge_102 : decode cX17_mayMerge 102 = .ok (.iconst 1, 1) := by decide +kernel
theorem dr_cX17_mayMerge_103 : decode cX17_mayMerge 103 = .ok (.goto 4, 3) := by decide +kernel
theorem dr_cX17_next_0 : decode cX17_next 0 = .ok (.iconst 0, 1) := by decide +kernel
theorem dr_cX17_next_1 : decode cX17_next 1 = .ok (.istore_n 2, 1) := by decide +kernel
theorem dr_cX17_next_2 : decode cX17_next 2 = .ok (.iload_n 2, 1) := by decide +kernel
theorem dr_cX17_next_3 : decode cX17_next 3 = .ok (.sipush 2000, 3) := by decide +kernel
theorem dr_cX17_next_6 : decode cX17_next 6 = .ok (.if_icmp .ge 30, 3) := by decide +kernel
theorem dr_cX17_next_36 : decode cX17_next 36 = .ok (.iconst (-1), 1) := by decide +kernel
theorem dr_cX17_next_37 : decode cX17_next 37 = .ok (.istore_n 2, 1) := by decide +kernel
theorem dr_cX17_next_38 : decode cX17_next 38 = .ok (.iconst 0, 1) := by decide +kernel
theorem dr_cX17_next_39 : decode cX17_next 39 = .ok (.istore_n 3, 1) := by decide +kernel
theorem dr_cX17_next_40 : decode cX17_next 40 = .ok (.iload_n 3, 1) := by decide +kernel
theorem dr_cX17_next_41 : decode cX17_next 41 = .ok (.sipush 2000, 3) := by decide +kernel
theorem dr_cX17_next_44 : decode cX17_next 44 = .ok (.if_icmp .ge 127, 3) := by decide +kernel
theorem dr_cX17_next_171 : decode cX17_next 171 = .ok (.iload_n 2, 1) := by decide +kernel
theorem dr_cX17_next_172 : decode cX17_next 172 = .ok (.ireturn, 1) := by decide +kernel
theorem dr_cX17_next_47 : decode cX17_next 47 = .ok (.aload_n 0, 1) := by decide +kernel
theorem dr_cX17_next_48 : decode cX17_next 48 = .ok (.getfield 206, 3) := by decide +kernel
theorem wr_7_92 : (Jvm.Cond.fieldLink "SpillForgeModel" (206 : Nat) "SpillForgeModel" "there" "[Z") ∈ gw := gw_7 92 rfl rfl
theorem dr_cX17_next_51 : decode cX17_next 51 = .ok (.iload_n 3, 1) := by decide +kernel
theorem dr_cX17_next_52 : decode cX17_next 52 = .ok (.baload, 1) := by decide +kernel
theorem dr_cX17_next_53 : decode cX17_next 53 = .ok (.ifCond .ne 6, 3) := by decide +kernel
theorem dr_cX17_next_59 : decode cX17_next 59 = .ok (.iload_n 2, 1) := by decide +kernel
theorem dr_cX17_next_60 : decode cX17_next 60 = .ok (.ifCond .ge 8, 3) := by decide +kernel
theorem dr_cX17_next_68 : decode cX17_next 68 = .ok (.iload_n 3, 1) := by decide +kernel
theorem dr_cX17_next_69 : decode cX17_next 69 = .ok (.bipush 100, 2) := by decide +kernel
theorem dr_cX17_next_71 : decode cX17_next 71 = .ok (.if_icmp .lt 7, 3) := by decide +kernel
theorem dr_cX17_next_78 : decode cX17_next 78 = .ok (.iconst 0, 1) := by decide +kernel
theorem dr_cX17_next_79 : decode cX17_next 79 = .ok (.istore 4, 2) := by decide +kernel
theorem dr_cX17_next_81 : decode cX17_next 81 = .ok (.iload_n 2, 1) := by decide +kernel
theorem dr_cX17_next_82 : decode cX17_next 82 = .ok (.bipush 100, 2) := by decide +kernel
theorem dr_cX17_next_84 : decode cX17_next 84 = .ok (.if_icmp .lt 7, 3) := by decide +kernel
theorem dr_cX17_next_91 : decode cX17_next 91 = .ok (.iconst 0, 1) := by decide +kernel
theorem dr_cX17_next_92 : decode cX17_next 92 = .ok (.istore 5, 2) := by decide +kernel
theorem dr_cX17_next_94 : decode cX17_next 94 = .ok (.iload 4, 2) := by decide +kernel
theorem dr_cX17_next_96 : decode cX17_next 96 = .ok (.ifCond .eq 11, 3) := by decide +kernel
theorem dr_cX17_next_107 : decode cX17_next 107 = .ok (.aload_n 0, 1) := by decide +kernel
theorem dr_cX17_next_108 : decode cX17_next 108 = .ok (.getfield 174, 3) := by decide +kernel
theorem wr_7_79 : (Jvm.Cond.fieldLink "SpillForgeModel" (174 : Nat) "SpillForgeModel" "weight" "[I") ∈ gw := gw_7 79 rfl rfl
theorem dr_cX17_next_111 : decode cX17_next 111 = .ok (.iload_n 3, 1) := by decide +kernel
theorem dr_cX17_next_112 : decode cX17_next 112 = .ok (.iaload, 1) := by decide +kernel
theorem dr_cX17_next_113 : decode cX17_next 113 = .ok (.i2l, 1) := by decide +kernel
theorem dr_cX17_next_114 : decode cX17_next 114 = .ok (.aload_n 0, 1) := by decide +kernel
theorem dr_cX17_next_115 : decode cX17_next 115 = .ok (.getfield 209, 3) := by decide +kernel
theorem wr_7_90 : (Jvm.Cond.fieldLink "SpillForgeModel" (209 : Nat) "SpillForgeModel" "left" "[I") ∈ gw := gw_7 90 rfl rfl
theorem dr_cX17_next_118 : decode cX17_next 118 = .ok (.iload_n 2, 1) := by decide +kernel
theorem dr_cX17_next_119 : decode cX17_next 119 = .ok (.iaload, 1) := by decide +kernel
theorem dr_cX17_next_120 : decode cX17_next 120 = .ok (.i2l, 1) := by decide +kernel
theorem dr_cX17_next_121 : decode cX17_next 121 = .ok (.lmul, 1) := by decide +kernel
theorem dr_cX17_next_122 : decode cX17_next 122 = .ok (.aload_n 0, 1) := by decide +kernel
theorem dr_cX17_next_123 : decode cX17_next 123 = .ok (.getfield 174, 3) := by decide +kernel
theorem dr_cX17_next_126 : decode cX17_next 126 = .ok (.iload_n 2, 1) := by decide +kernel
theorem dr_cX17_next_127 : decode cX17_next 127 = .ok (.iaload, 1) := by decide +kernel
theorem dr_cX17_next_128 : decode cX17_next 128 = .ok (.i2l, 1) := by decide +kernel
theorem dr_cX17_next_129 : decode cX17_next 129 = .ok (.aload_n 0, 1) := by decide +kernel
theorem dr_cX17_next_130 : decode cX17_next 130 = .ok (.getfield 209, 3) := by decide +kernel
theorem dr_cX17_next_133 : decode cX17_next 133 = .ok (.iload_n 3, 1) := by decide +kernel
theorem dr_cX17_next_134 : decode cX17_next 134 = .ok (.iaload, 1) := by decide +kernel
theorem dr_cX17_next_135 : decode cX17_next 135 = .ok (.i2l, 1) := by decide +kernel
theorem dr_cX17_next_136 : decode cX17_next 136 = .ok (.lmul, 1) := by decide +kernel
theorem dr_cX17_next_137 : decode cX17_next 137 = .ok (.lcmp, 1) := by decide +kernel
theorem dr_cX17_next_138 : decode cX17_next 138 = .ok (.ifCond .ge 7, 3) := by decide +kernel
theorem dr_cX17_next_145 : decode cX17_next 145 = .ok (.iconst 0, 1) := by decide +kernel
theorem dr_cX17_next_146 : decode cX17_next 146 = .ok (.istore 6, 2) := by decide +kernel
theorem dr_cX17_next_148 : decode cX17_next 148 = .ok (.iload 4, 2) := by decide +kernel
theorem dr_cX17_next_150 : decode cX17_next 150 = .ok (.ifCond .ne 8, 3) := by decide +kernel
theorem dr_cX17_next_153 : decode cX17_next 153 = .ok (.iload 5, 2) := by decide +kernel
theorem dr_cX17_next_155 : decode cX17_next 155 = .ok (.ifCond .ne 8, 3) := by decide +kernel
theorem dr_cX17_next_158 : decode cX17_next 158 = .ok (.iload 6, 2) := by decide +kernel
theorem dr_cX17_next_160 : decode cX17_next 160 = .ok (.ifCond .eq 5, 3) := by decide +kernel
theorem dr_cX17_next_165 : decode cX17_next 165 = .ok (.iinc 3 1, 3) := by decide +kernel
theorem dr_cX17_next_168 : decode cX17_next 168 = .ok (.goto (-128), 3) := by decide +kernel
theorem dr_cX17_next_141 : decode cX17_next 141 = .ok (.iconst 1, 1) := by decide +kernel
theorem dr_cX17_next_142 : decode cX17_next 142 = .ok (.goto 4, 3) := by decide +kernel
theorem dr_cX17_next_163 : decode cX17_next 163 = .ok (.iload_n 3, 1) := by decide +kernel
theorem dr_cX17_next_164 : decode cX17_next 164 = .ok (.istore_n 2, 1) := by decide +kernel
theorem dr_cX17_next_87 : decode cX17_next 87 = .ok (.iconst 1, 1) := by decide +kernel
theorem dr_cX17_next_88 : decode cX17_next 88 = .ok (.goto 4, 3) := by decide +kernel
theorem dr_cX17_next_74 : decode cX17_next 74 = .ok (.iconst 1, 1) := by decide +kernel
theorem dr_cX17_next_75 : decode cX17_next 75 = .ok (.goto 4, 3) := by decide +kernel
theorem dr_cX17_next_99 : decode cX17_next 99 = .ok (.iload 5, 2) := by decide +kernel
theorem dr_cX17_next_101 : decode cX17_next 101 = .ok (.ifCond .ne 6, 3) := by decide +kernel
theorem dr_cX17_next_104 : decode cX17_next 104 = .ok (.goto 61, 3) := by decide +kernel
theorem dr_cX17_next_63 : decode cX17_next 63 = .ok (.iload_n 3, 1) := by decide +kernel
theorem dr_cX17_next_64 : decode cX17_next 64 = .ok (.istore_n 2, 1) := by decide +kernel
theorem dr_cX17_next_65 : decode cX17_next 65 = .ok (.goto 100, 3) := by decide +kernel
theorem dr_cX17_next_56 : decode cX17_next 56 = .ok (.goto 109, 3) := by decide +kernel
theorem dr_cX17_next_9 : decode cX17_next 9 = .ok (.aload_n 0, 1) := by decide +kernel
theorem dr_cX17_next_10 : decode cX17_next 10 = .ok (.getfield 206, 3) := by decide +kernel
theorem dr_cX17_next_13 : decode cX17_next 13 = .ok (.iload_n 2, 1) := by decide +kernel
theorem dr_cX17_next_14 : decode cX17_next 14 = .ok (.baload, 1) := by decide +kernel
theorem dr_cX17_next_15 : decode cX17_next 15 = .ok (.ifCond .eq 15, 3) := by decide +kernel
theorem dr_cX17_next_30 : decode cX17_next 30 = .ok (.iinc 2 1, 3) := by decide +kernel
theorem dr_cX17_next_33 : decode cX17_next 33 = .ok (.goto (-31), 3) := by decide +kernel
theorem dr_cX17_next_18 : decode cX17_next 18 = .ok (.aload_n 0, 1) := by decide +kernel
theorem dr_cX17_next_19 : decode cX17_next 19 = .ok (.getfield 209, 3) := by decide +kernel
theorem dr_cX17_next_22 : decode cX17_next 22 = .ok (.iload_n 2, 1) := by decide +kernel
theorem dr_cX17_next_23 : decode cX17_next 23 = .ok (.iaload, 1) := by decide +kernel
theorem dr_cX17_next_24 : decode cX17_next 24 = .ok (.iload_n 1, 1) := by decide +kernel
theorem dr_cX17_next_25 : decode cX17_next 25 = .ok (.if_icmp .ge 5, 3) := by decide +kernel
theorem dr_cX17_next_28 : decode cX17_next 28 = .ok (.iload_n 2, 1) := by decide +kernel
theorem dr_cX17_next_29 : decode cX17_next 29 = .ok (.ireturn, 1) := by decide +kernel
abbrev ky_16093_SpillForgeModel_mayMerge : gKey := (cX17_mayMerge, 8, "SpillForgeModel", (some FieldType.boolean), [], "mayMerge", fun _ _ => True)
def pt_16093_SpillForgeModel_mayMerge (D : va_G) (I : FieldType → ClassId) (γ el : Nat → Nat → Nat) (P16087 : List Nat) (F16088 : Nat → va_E) (q16089 : Nat) (p16090 : Int32) (p16091 : Int32) (p16092 : Int32) : Option Value → va_W → Nat → Nat → Prop := fun r w dc ds => ∃ (o17958 : Int32), r = some (.int o17958) ∧ w = va_pl P16087 F16088 ∧ dc ≤ 0 ∧ ds ≤ 0 ∧ gB o17958 0 1
set_option maxRecDepth 100000 in
set_option maxHeartbeats 4000000 in
theorem ct_16093_SpillForgeModel_mayMerge (l : Launch) (hl0 : l.stackTraces = false) (D : va_G) (I : FieldType → ClassId) (γ el : Nat → Nat → Nat) (P16087 : List Nat) (F16088 : Nat → va_E) (q16089 : Nat) (p16090 : Int32) (p16091 : Int32) (p16092 : Int32) (hT : RS D I P16087 F16088 γ el) (htq16089 : rKd γ q16089 10) (bp16090 : gB p16090 0 1999) (bp16091 : gB p16091 0 1999) : CtA (gV D I) l yX17_mayMerge cX17_mayMerge 8 (some FieldType.boolean) 2 43 0 0 [.ref q16089, .int p16090, .int p16091, .int p16092] (va_pl P16087 F16088) (pt_16093_SpillForgeModel_mayMerge D I γ el P16087 F16088 q16089 p16090 p16091 p16092) gNA := by
  refine CtA_of hl0 (by decide) (Nat.le_of_ble_eq_true rfl) ?_
  have bp16092 := gB_any p16092
  refine G_iload_n 1 dr_cX17_mayMerge_0 rfl ?_
  refine G_bipush 100 dr_cX17_mayMerge_1 (by decide +kernel) ?_
  refine G_icmp_ge 25 dr_cX17_mayMerge_3 (by decide +kernel) (fun hc16094 => ?_) (fun hc16094 => ?_)
  · have r16095 : 100 ≤ p16090.toInt := gj_leL hc16094 (show Int32.toInt 100 = 100 by decide)
    have bp16090' : gB p16090 100 1999 := ⟨by omega, by omega⟩
    refine G_iconst 0 dr_cX17_mayMerge_25 (by decide +kernel) ?_
    exact G_zretA FieldType.boolean dr_cX17_mayMerge_26 rfl rfl (Nat.le_of_ble_eq_true rfl) (Nat.le_of_ble_eq_true rfl) ⟨0, rfl, rfl, (Nat.le_of_ble_eq_true rfl), (Nat.le_of_ble_eq_true rfl), (gB_w (gBl (show Int32.toInt 0 = 0 by decide)) (by decide) (by decide))⟩
  · have r16096 : p16090.toInt < 100 := gj_nleL hc16094 (show Int32.toInt 100 = 100 by decide)
    have bp16090' : gB p16090 0 99 := ⟨by omega, by omega⟩
    refine G_iload_n 2 dr_cX17_mayMerge_6 rfl ?_
    refine G_bipush 100 dr_cX17_mayMerge_7 (by decide +kernel) ?_
    refine G_icmp_ge 25 dr_cX17_mayMerge_9 (by decide +kernel) (fun hc16097 => ?_) (fun hc16097 => ?_)
    · have r16098 : 100 ≤ p16091.toInt := gj_leL hc16097 (show Int32.toInt 100 = 100 by decide)
      have bp16091' : gB p16091 100 1999 := ⟨by omega, by omega⟩
      refine G_iconst 0 dr_cX17_mayMerge_25 (by decide +kernel) ?_
      exact G_zretA FieldType.boolean dr_cX17_mayMerge_26 rfl rfl (Nat.le_of_ble_eq_true rfl) (Nat.le_of_ble_eq_true rfl) ⟨0, rfl, rfl, (Nat.le_of_ble_eq_true rfl), (Nat.le_of_ble_eq_true rfl), (gB_w (gBl (show Int32.toInt 0 = 0 by decide)) (by decide) (by decide))⟩
    · have r16099 : p16091.toInt < 100 := gj_nleL hc16097 (show Int32.toInt 100 = 100 by decide)
      have bp16091' : gB p16091 0 99 := ⟨by omega, by omega⟩
      refine G_aload_n 0 dr_cX17_mayMerge_12 rfl ?_
      have hm16100 : q16089 ∈ P16087 := RS_m hT htq16089 (by decide)
      obtain ⟨q16102, q16103, p16104, p16105, p16106, p16107, p16108, p16109, p16110, p16111, p16112, p16113, p16114, p16115, p16116, p16117, p16118, he16101, hB16145, ht16119, ht16120, ht16121, ht16122, ht16123, ht16124, ht16125, ht16126, ht16127, ht16128, ht16129, ht16130, ht16131, ht16132, ht16133, ht16134, ht16135, ht16136, ht16137, ht16138, ht16139, ht16140, ht16141, ht16142, hB16146⟩ := show rk_10 γ (F16088 q16089) from RS_o hT htq16089
      refine Gp_get 1 hm16100 he16101 dr_cX17_mayMerge_13 (gk_X17 D I) (Nat.le_of_ble_eq_true rfl) wr_7_75 rfl ?_
      refine G_iload_n 1 dr_cX17_mayMerge_16 rfl ?_
      have hm16147 : (γ 9 1) ∈ P16087 := RS_m hT ht16122 (by decide)
      obtain ⟨f16149, he16148, hg16150⟩ := show rk_13 I γ (F16088 (γ 9 1)) from RS_o hT ht16122
      obtain ⟨q16151, hx16153⟩ : ∃ x, x = γ 11 p16090.toInt.toNat := ⟨_, rfl⟩
      have ht16152 : rKd γ q16151 36 := by rw [hx16153]; exact (hg16150 _ (show p16090.toInt.toNat < 2000 by omega)).2.1
      refine Gp_aald 5 hm16147 he16148 dr_cX17_mayMerge_17 rfl rfl (gB_in bp16090' (by decide) (by decide)) ?_
      rw [show f16149 p16090.toNatClampNeg = some q16151 from (hg16150 _ (show p16090.toInt.toNat < 2000 by omega)).1.trans (by rw [hx16153])]
      change G _ _ _ _ _ _ _ (.ref q16151 :: _) _ _ _
      refine G_iload_n 2 dr_cX17_mayMerge_18 rfl ?_
      have hm16154 : q16151 ∈ P16087 := RS_m hT ht16152 (by decide)
      obtain ⟨f16156, he16155, wf16156⟩ := show rk_36 I (F16088 q16151) from RS_o hT ht16152
      refine Gw_callS (As := [.ref q16151, .int p16091]) (gV_ok D I) (cp_1838_SpillForgeModel_has l hl0 D I P16087 F16088 q16151 p16091 f16156 hm16154 he16155 (gB_w bp16091' (by decide) (by decide))) dr_cX17_mayMerge_19 ⟨wr_10_203, wr_1_14, wr_10_205, by decide, rfl, (Nat.le_of_ble_eq_true rfl), (Nat.le_of_ble_eq_true rfl)⟩ wr_10_204 (show 0 + 0 ≤ 0 by first | omega | decide) (show 0 + 0 ≤ 0 by first | omega | decide) (Nat.le_of_ble_eq_true rfl) (fun r16160 w16161 dc16157 ds16158 hp16159 => ?_) (fun _ _ _ _ _ z => z.elim)
      rcases hp16159 with ⟨z16162, z16163, rfl, rfl, hdc, hds, r16164, r16165, r16166, r16167⟩ | ⟨z16168, z16169, rfl, rfl, hdc, hds, r16170, r16171, r16172, r16173⟩
      · change G _ _ _ _ _ _ _ (.int 0 :: _) _ _ _
        refine G_widen (cs' := 0) (sl' := 0) (by omega) (by omega) ?_
        refine G_if_eq 27 dr_cX17_mayMerge_22 (by decide +kernel) (fun _ => ?_) (fun hc => absurd hc (by decide))
        refine G_iconst 0 dr_cX17_mayMerge_27 (by decide +kernel) ?_
        refine G_istore (L' := [(4, .int 0), (0, .ref q16089), (1, .int p16090), (2, .int p16091), (3, .int p16092)]) dr_cX17_mayMerge_28 (Nat.le_of_ble_eq_true rfl) rfl ?_
        refine G_iconst 0 dr_cX17_mayMerge_30 (by decide +kernel) ?_
        refine G_istore (L' := [(5, .int 0), (4, .int 0), (0, .ref q16089), (1, .int p16090), (2, .int p16091), (3, .int p16092)]) dr_cX17_mayMerge_31 (Nat.le_of_ble_eq_true rfl) rfl ?_
        have hlp33_17817 : ∀ (n33_17817 : Nat) (g17816 : Int32) (g17817 : Int32), gB g17816 0 2000 → ((2001 : Int) - g17816.toInt).toNat < n33_17817 → G (gV D I) l (gRm 2 43 0 0) (gMA (gV D I) (pt_16093_SpillForgeModel_mayMerge D I γ el P16087 F16088 q16089 p16090 p16091 p16092) gNA 0 0) ky_16093_SpillForgeModel_mayMerge 33 [(5, .int g17816), (4, .int g17817), (0, .ref q16089), (1, .int p16090), (2, .int p16091), (3, .int p16092)] [] (va_pl P16087 F16088) 0 0 := by
          intro n33_17817
          induction n33_17817 with
          | zero => intro g17816 g17817 bg17816 hm33_17817; exact absurd hm33_17817 (Nat.not_lt_zero _)
          | succ n33_17817 ih33_17817 =>
            intro g17816 g17817 bg17816 hm33_17817
            have bg17817 := gB_any g17817
            refine G_iload 0 dr_cX17_mayMerge_33 rfl ?_
            refine G_sipush 2000 dr_cX17_mayMerge_35 (by decide +kernel) ?_
            refine G_icmp_ge 126 dr_cX17_mayMerge_38 (by decide +kernel) (fun hc17819 => ?_) (fun hc17819 => ?_)
            · have r17820 : 2000 ≤ g17816.toInt := gj_leL hc17819 (show Int32.toInt 2000 = 2000 by decide)
              have bg17816' : gB g17816 2000 2000 := ⟨by omega, by omega⟩
              refine G_iload 1 dr_cX17_mayMerge_126 rfl ?_
              refine G_iload_n 5 dr_cX17_mayMerge_128 rfl ?_
              refine G_icmp_ge 136 dr_cX17_mayMerge_129 (by decide +kernel) (fun hc17821 => ?_) (fun hc17821 => ?_)
              · have r17822 : p16092.toInt ≤ g17817.toInt := gC_le hc17821
                refine G_iconst 0 dr_cX17_mayMerge_136 (by decide +kernel) ?_
                exact G_zretA FieldType.boolean dr_cX17_mayMerge_137 rfl rfl (Nat.le_of_ble_eq_true rfl) (Nat.le_of_ble_eq_true rfl) ⟨0, rfl, rfl, (Nat.le_of_ble_eq_true rfl), (Nat.le_of_ble_eq_true rfl), (gB_w (gBl (show Int32.toInt 0 = 0 by decide)) (by decide) (by decide))⟩
              · have r17823 : g17817.toInt < p16092.toInt := gC_nle hc17821
                have bg17817' : gB g17817 (-2147483648) 2147483646 := ⟨by omega, by omega⟩
                have bp16092' : gB p16092 (-2147483647) 2147483647 := ⟨by omega, by omega⟩
                refine G_iconst 1 dr_cX17_mayMerge_132 (by decide +kernel) ?_
                refine G_goto 137 dr_cX17_mayMerge_133 (by decide +kernel) ?_
                exact G_zretA FieldType.boolean dr_cX17_mayMerge_137 rfl rfl (Nat.le_of_ble_eq_true rfl) (Nat.le_of_ble_eq_true rfl) ⟨1, rfl, rfl, (Nat.le_of_ble_eq_true rfl), (Nat.le_of_ble_eq_true rfl), (gB_w (gBl (show Int32.toInt 1 = 1 by decide)) (by decide) (by decide))⟩
            · have r17824 : g17816.toInt < 2000 := gj_nleL hc17819 (show Int32.toInt 2000 = 2000 by decide)
              have bg17816' : gB g17816 0 1999 := ⟨by omega, by omega⟩
              refine G_aload_n 2 dr_cX17_mayMerge_41 rfl ?_
              refine Gp_get 1 hm16100 he16101 dr_cX17_mayMerge_42 (gk_X17 D I) (Nat.le_of_ble_eq_true rfl) wr_7_75 rfl ?_
              refine G_iload_n 3 dr_cX17_mayMerge_45 rfl ?_
              obtain ⟨q17825, hx17827⟩ : ∃ x, x = γ 11 p16090.toInt.toNat := ⟨_, rfl⟩
              have ht17826 : rKd γ q17825 36 := by rw [hx17827]; exact (hg16150 _ (show p16090.toInt.toNat < 2000 by omega)).2.1
              refine Gp_aald 5 hm16147 he16148 dr_cX17_mayMerge_46 rfl rfl (gB_in bp16090' (by decide) (by decide)) ?_
              rw [show f16149 p16090.toNatClampNeg = some q17825 from (hg16150 _ (show p16090.toInt.toNat < 2000 by omega)).1.trans (by rw [hx17827])]
              change G _ _ _ _ _ _ _ (.ref q17825 :: _) _ _ _
              refine G_iload 0 dr_cX17_mayMerge_47 rfl ?_
              have hm17828 : q17825 ∈ P16087 := RS_m hT ht17826 (by decide)
              obtain ⟨f17830, he17829, wf17830⟩ := show rk_36 I (F16088 q17825) from RS_o hT ht17826
              refine Gw_callS (As := [.ref q17825, .int g17816]) (gV_ok D I) (cp_1838_SpillForgeModel_has l hl0 D I P16087 F16088 q17825 g17816 f17830 hm17828 he17829 (gB_w bg17816' (by decide) (by decide))) dr_cX17_mayMerge_49 ⟨wr_10_203, wr_1_14, wr_10_205, by decide, rfl, (Nat.le_of_ble_eq_true rfl), (Nat.le_of_ble_eq_true rfl)⟩ wr_10_204 (show 0 + 0 ≤ 0 by first | omega | decide) (show 0 + 0 ≤ 0 by first | omega | decide) (Nat.le_of_ble_eq_true rfl) (fun r17834 w17835 dc17831 ds17832 hp17833 => ?_) (fun _ _ _ _ _ z => z.elim)
              rcases hp17833 with ⟨z17836, z17837, rfl, rfl, hdc, hds, r17838, r17839, r17840, r17841⟩ | ⟨z17842, z17843, rfl, rfl, hdc, hds, r17844, r17845, r17846, r17847⟩
              · change G _ _ _ _ _ _ _ (.int 0 :: _) _ _ _
                refine G_widen (cs' := 0) (sl' := 0) (by omega) (by omega) ?_
                refine G_istore (L' := [(6, .int 0), (5, .int g17816), (4, .int g17817), (0, .ref q16089), (1, .int p16090), (2, .int p16091), (3, .int p16092)]) dr_cX17_mayMerge_52 (Nat.le_of_ble_eq_true rfl) rfl ?_
                refine G_aload_n 3 dr_cX17_mayMerge_54 rfl ?_
                refine Gp_get 1 hm16100 he16101 dr_cX17_mayMerge_55 (gk_X17 D I) (Nat.le_of_ble_eq_true rfl) wr_7_75 rfl ?_
                refine G_iload_n 5 dr_cX17_mayMerge_58 rfl ?_
                obtain ⟨q17849, hx17851⟩ : ∃ x, x = γ 11 p16091.toInt.toNat := ⟨_, rfl⟩
                have ht17850 : rKd γ q17849 36 := by rw [hx17851]; exact (hg16150 _ (show p16091.toInt.toNat < 2000 by omega)).2.1
                refine Gp_aald 5 hm16147 he16148 dr_cX17_mayMerge_59 rfl rfl (gB_in bp16091' (by decide) (by decide)) ?_
                rw [show f16149 p16091.toNatClampNeg = some q17849 from (hg16150 _ (show p16091.toInt.toNat < 2000 by omega)).1.trans (by rw [hx17851])]
                change G _ _ _ _ _ _ _ (.ref q17849 :: _) _ _ _
                refine G_iload 1 dr_cX17_mayMerge_60 rfl ?_
                have hm17852 : q17849 ∈ P16087 := RS_m hT ht17850 (by decide)
                obtain ⟨f17854, he17853, wf17854⟩ := show rk_36 I (F16088 q17849) from RS_o hT ht17850
                refine Gw_callS (As := [.ref q17849, .int g17816]) (gV_ok D I) (cp_1838_SpillForgeModel_has l hl0 D I P16087 F16088 q17849 g17816 f17854 hm17852 he17853 (gB_w bg17816' (by decide) (by decide))) dr_cX17_mayMerge_62 ⟨wr_10_203, wr_1_14, wr_10_205, by decide, rfl, (Nat.le_of_ble_eq_true rfl), (Nat.le_of_ble_eq_true rfl)⟩ wr_10_204 (show 0 + 0 ≤ 0 by first | omega | decide) (show 0 + 0 ≤ 0 by first | omega | decide) (Nat.le_of_ble_eq_true rfl) (fun r17858 w17859 dc17855 ds17856 hp17857 => ?_) (fun _ _ _ _ _ z => z.elim)
                rcases hp17857 with ⟨z17860, z17861, rfl, rfl, hdc, hds, r17862, r17863, r17864, r17865⟩ | ⟨z17866, z17867, rfl, rfl, hdc, hds, r17868, r17869, r17870, r17871⟩
                · change G _ _ _ _ _ _ _ (.int 0 :: _) _ _ _
                  refine G_widen (cs' := 0) (sl' := 0) (by omega) (by omega) ?_
                  refine G_istore (L' := [(7, .int 0), (6, .int 0), (5, .int g17816), (4, .int g17817), (0, .ref q16089), (1, .int p16090), (2, .int p16091), (3, .int p16092)]) dr_cX17_mayMerge_65 (Nat.le_of_ble_eq_true rfl) rfl ?_
                  refine G_iload 1 dr_cX17_mayMerge_67 rfl ?_
                  refine G_if_ne 80 dr_cX17_mayMerge_69 (by decide +kernel) (fun hc => absurd hc (by decide)) (fun _ => ?_)
                  refine G_iload 0 dr_cX17_mayMerge_72 rfl ?_
                  refine G_if_ne 80 dr_cX17_mayMerge_74 (by decide +kernel) (fun hc => absurd hc (by decide)) (fun _ => ?_)
                  refine G_goto 120 dr_cX17_mayMerge_77 (by decide +kernel) ?_
                  obtain ⟨z17873, hz17873⟩ : ∃ z : Int32, z = g17816 + Int32.ofInt 1 := ⟨_, rfl⟩
                  have ez17873 : z17873.toInt = g17816.toInt + 1 := gI_inc hz17873 (by decide) bg17816' (by decide) (by decide)
                  have bz17873 : gB z17873 1 2000 := ⟨by omega, by omega⟩
                  refine G_iinc (L' := [(5, .int z17873), (7, .int 0), (6, .int 0), (4, .int g17817), (0, .ref q16089), (1, .int p16090), (2, .int p16091), (3, .int p16092)]) z17873 2 dr_cX17_mayMerge_120 rfl hz17873.symm (Nat.le_of_ble_eq_true rfl) rfl ?_
                  refine G_goto 33 dr_cX17_mayMerge_123 (by decide +kernel) ?_
                  refine G_lv (L' := [(5, .int z17873), (4, .int g17817), (0, .ref q16089), (1, .int p16090), (2, .int p16091), (3, .int p16092)]) [0, 3, 4, 5, 6, 7] rfl ?_
                  exact ih33_17817 z17873 g17817 (gB_w bz17873 (by decide) (by decide)) (by omega)
                · change G _ _ _ _ _ _ _ (.int 1 :: _) _ _ _
                  refine G_widen (cs' := 0) (sl' := 0) (by omega) (by omega) ?_
                  refine G_istore (L' := [(7, .int 1), (6, .int 0), (5, .int g17816), (4, .int g17817), (0, .ref q16089), (1, .int p16090), (2, .int p16091), (3, .int p16092)]) dr_cX17_mayMerge_65 (Nat.le_of_ble_eq_true rfl) rfl ?_
                  refine G_iload 1 dr_cX17_mayMerge_67 rfl ?_
                  refine G_if_ne 80 dr_cX17_mayMerge_69 (by decide +kernel) (fun hc => absurd hc (by decide)) (fun _ => ?_)
                  refine G_iload 0 dr_cX17_mayMerge_72 rfl ?_
                  refine G_if_ne 80 dr_cX17_mayMerge_74 (by decide +kernel) (fun _ => ?_) (fun hc => absurd hc (by decide))
                  refine G_iload 3 dr_cX17_mayMerge_80 rfl ?_
                  refine G_aload_n 4 dr_cX17_mayMerge_82 rfl ?_
                  refine Gp_get 1 hm16100 he16101 dr_cX17_mayMerge_83 (gk_X17 D I) (Nat.le_of_ble_eq_true rfl) wr_7_75 rfl ?_
                  refine G_iload 2 dr_cX17_mayMerge_86 rfl ?_
                  obtain ⟨q17874, hx17876⟩ : ∃ x, x = γ 11 g17816.toInt.toNat := ⟨_, rfl⟩
                  have ht17875 : rKd γ q17874 36 := by rw [hx17876]; exact (hg16150 _ (show g17816.toInt.toNat < 2000 by omega)).2.1
                  refine Gp_aald 5 hm16147 he16148 dr_cX17_mayMerge_88 rfl rfl (gB_in bg17816' (by decide) (by decide)) ?_
                  rw [show f16149 g17816.toNatClampNeg = some q17874 from (hg16150 _ (show g17816.toInt.toNat < 2000 by omega)).1.trans (by rw [hx17876])]
                  change G _ _ _ _ _ _ _ (.ref q17874 :: _) _ _ _
                  have hm17877 : q17874 ∈ P16087 := RS_m hT ht17875 (by decide)
                  obtain ⟨f17879, he17878, wf17879⟩ := show rk_36 I (F16088 q17874) from RS_o hT ht17875
                  refine Gw_callS (As := [.ref q17874]) (gV_ok D I) (cp_1892_SpillForgeModel_count l hl0 D I P16087 F16088 q17874 f17879 hm17877 he17878) dr_cX17_mayMerge_89 ⟨wr_11_16, wr_1_14, wr_11_18, by decide, rfl, (Nat.le_of_ble_eq_true rfl), (Nat.le_of_ble_eq_true rfl)⟩ wr_11_17 (show 0 + 0 ≤ 0 by first | omega | decide) (show 0 + 0 ≤ 0 by first | omega | decide) (Nat.le_of_ble_eq_true rfl) (fun r17883 w17884 dc17880 ds17881 hp17882 => ?_) (fun _ _ _ _ _ z => z.elim)
                  obtain ⟨o17885, rfl, rfl, hdc, hds⟩ := hp17882
                  have bo17885 := gB_any o17885
                  change G _ _ _ _ _ _ _ (.int o17885 :: _) _ _ _
                  refine G_widen (cs' := 0) (sl' := 0) (by omega) (by omega) ?_
                  refine G_iload 1 dr_cX17_mayMerge_92 rfl ?_
                  refine G_if_eq 106 dr_cX17_mayMerge_94 (by decide +kernel) (fun _ => ?_) (fun hc => absurd hc (by decide))
                  refine G_iconst 0 dr_cX17_mayMerge_106 (by decide +kernel) ?_
                  refine G_isub dr_cX17_mayMerge_107 (G_nam fun z17886 hz17886 => ?_)
                  have ez17886 : z17886.toInt = o17885.toInt - 0 := by rw [gI_sub hz17886 bo17885 (gBl (show Int32.toInt 0 = 0 by decide)) (by decide) (by decide), show Int32.toInt 0 = 0 from by decide]
                  have bz17886 : gB z17886 (-2147483648) 2147483647 := gB_sub (gI_sub hz17886 bo17885 (gBl (show Int32.toInt 0 = 0 by decide)) (by decide) (by decide)) bo17885 (gBl (show Int32.toInt 0 = 0 by decide)) (by decide) (by decide)
                  refine G_iload_n 7 dr_cX17_mayMerge_108 rfl ?_
                  refine G_icmp_lt 116 dr_cX17_mayMerge_109 (by decide +kernel) (fun hc17887 => ?_) (fun hc17887 => ?_)
                  · have r17888 : z17886.toInt < p16092.toInt := gC_lt hc17887
                    have bz17886' : gB z17886 (-2147483648) 2147483646 := ⟨by omega, by omega⟩
                    have bp16092' : gB p16092 (-2147483647) 2147483647 := ⟨by omega, by omega⟩
                    refine G_iconst 0 dr_cX17_mayMerge_116 (by decide +kernel) ?_
                    refine G_iadd dr_cX17_mayMerge_117 (G_nam fun z17889 hz17889 => ?_)
                    have ez17889 : z17889.toInt = g17817.toInt + 0 := by rw [gI_add hz17889 bg17817 (gBl (show Int32.toInt 0 = 0 by decide)) (by decide) (by decide), show Int32.toInt 0 = 0 from by decide]
                    have bz17889 : gB z17889 (-2147483648) 2147483647 := gB_add (gI_add hz17889 bg17817 (gBl (show Int32.toInt 0 = 0 by decide)) (by decide) (by decide)) bg17817 (gBl (show Int32.toInt 0 = 0 by decide)) (by decide) (by decide)
                    refine G_istore (L' := [(4, .int z17889), (7, .int 1), (6, .int 0), (5, .int g17816), (0, .ref q16089), (1, .int p16090), (2, .int p16091), (3, .int p16092)]) dr_cX17_mayMerge_118 (Nat.le_of_ble_eq_true rfl) rfl ?_
                    obtain ⟨z17890, hz17890⟩ : ∃ z : Int32, z = g17816 + Int32.ofInt 1 := ⟨_, rfl⟩
                    have ez17890 : z17890.toInt = g17816.toInt + 1 := gI_inc hz17890 (by decide) bg17816' (by decide) (by decide)
                    have bz17890 : gB z17890 1 2000 := ⟨by omega, by omega⟩
                    refine G_iinc (L' := [(5, .int z17890), (4, .int z17889), (7, .int 1), (6, .int 0), (0, .ref q16089), (1, .int p16090), (2, .int p16091), (3, .int p16092)]) z17890 3 dr_cX17_mayMerge_120 rfl hz17890.symm (Nat.le_of_ble_eq_true rfl) rfl ?_
                    refine G_goto 33 dr_cX17_mayMerge_123 (by decide +kernel) ?_
                    refine G_lv (L' := [(5, .int z17890), (4, .int z17889), (0, .ref q16089), (1, .int p16090), (2, .int p16091), (3, .int p16092)]) [0, 1, 4, 5, 6, 7] rfl ?_
                    exact ih33_17817 z17890 z17889 (gB_w bz17890 (by decide) (by decide)) (by omega)
                  · have r17891 : p16092.toInt ≤ z17886.toInt := gC_nlt hc17887
                    refine G_iconst 1 dr_cX17_mayMerge_112 (by decide +kernel) ?_
                    refine G_goto 117 dr_cX17_mayMerge_113 (by decide +kernel) ?_
                    refine G_iadd dr_cX17_mayMerge_117 (G_nam fun z17892 hz17892 => ?_)
                    have bz17892 : gB z17892 (-2147483648) 2147483647 := gB_any z17892
                    refine G_istore (L' := [(4, .int z17892), (7, .int 1), (6, .int 0), (5, .int g17816), (0, .ref q16089), (1, .int p16090), (2, .int p16091), (3, .int p16092)]) dr_cX17_mayMerge_118 (Nat.le_of_ble_eq_true rfl) rfl ?_
                    obtain ⟨z17893, hz17893⟩ : ∃ z : Int32, z = g17816 + Int32.ofInt 1 := ⟨_, rfl⟩
                    have ez17893 : z17893.toInt = g17816.toInt + 1 := gI_inc hz17893 (by decide) bg17816' (by decide) (by decide)
                    have bz17893 : gB z17893 1 2000 := ⟨by omega, by omega⟩
                    refine G_iinc (L' := [(5, .int z17893), (4, .int z17892), (7, .int 1), (6, .int 0), (0, .ref q16089), (1, .int p16090), (2, .int p16091), (3, .int p16092)]) z17893 3 dr_cX17_mayMerge_120 rfl hz17893.symm (Nat.le_of_ble_eq_true rfl) rfl ?_
                    refine G_goto 33 dr_cX17_mayMerge_123 (by decide +kernel) ?_
                    refine G_lv (L' := [(5, .int z17893), (4, .int z17892), (0, .ref q16089), (1, .int p16090), (2, .int p16091), (3, .int p16092)]) [0, 1, 4, 5, 6, 7] rfl ?_
                    exact ih33_17817 z17893 z17892 (gB_w bz17893 (by decide) (by decide)) (by omega)
              · change G _ _ _ _ _ _ _ (.int 1 :: _) _ _ _
                refine G_widen (cs' := 0) (sl' := 0) (by omega) (by omega) ?_
                refine G_istore (L' := [(6, .int 1), (5, .int g17816), (4, .int g17817), (0, .ref q16089), (1, .int p16090), (2, .int p16091), (3, .int p16092)]) dr_cX17_mayMerge_52 (Nat.le_of_ble_eq_true rfl) rfl ?_
                refine G_aload_n 3 dr_cX17_mayMerge_54 rfl ?_
                refine Gp_get 1 hm16100 he16101 dr_cX17_mayMerge_55 (gk_X17 D I) (Nat.le_of_ble_eq_true rfl) wr_7_75 rfl ?_
                refine G_iload_n 5 dr_cX17_mayMerge_58 rfl ?_
                obtain ⟨q17894, hx17896⟩ : ∃ x, x = γ 11 p16091.toInt.toNat := ⟨_, rfl⟩
                have ht17895 : rKd γ q17894 36 := by rw [hx17896]; exact (hg16150 _ (show p16091.toInt.toNat < 2000 by omega)).2.1
                refine Gp_aald 5 hm16147 he16148 dr_cX17_mayMerge_59 rfl rfl (gB_in bp16091' (by decide) (by decide)) ?_
                rw [show f16149 p16091.toNatClampNeg = some q17894 from (hg16150 _ (show p16091.toInt.toNat < 2000 by omega)).1.trans (by rw [hx17896])]
                change G _ _ _ _ _ _ _ (.ref q17894 :: _) _ _ _
                refine G_iload 1 dr_cX17_mayMerge_60 rfl ?_
                have hm17897 : q17894 ∈ P16087 := RS_m hT ht17895 (by decide)
                obtain ⟨f17899, he17898, wf17899⟩ := show rk_36 I (F16088 q17894) from RS_o hT ht17895
                refine Gw_callS (As := [.ref q17894, .int g17816]) (gV_ok D I) (cp_1838_SpillForgeModel_has l hl0 D I P16087 F16088 q17894 g17816 f17899 hm17897 he17898 (gB_w bg17816' (by decide) (by decide))) dr_cX17_mayMerge_62 ⟨wr_10_203, wr_1_14, wr_10_205, by decide, rfl, (Nat.le_of_ble_eq_true rfl), (Nat.le_of_ble_eq_true rfl)⟩ wr_10_204 (show 0 + 0 ≤ 0 by first | omega | decide) (show 0 + 0 ≤ 0 by first | omega | decide) (Nat.le_of_ble_eq_true rfl) (fun r17903 w17904 dc17900 ds17901 hp17902 => ?_) (fun _ _ _ _ _ z => z.elim)
                rcases hp17902 with ⟨z17905, z17906, rfl, rfl, hdc, hds, r17907, r17908, r17909, r17910⟩ | ⟨z17911, z17912, rfl, rfl, hdc, hds, r17913, r17914, r17915, r17916⟩
                · change G _ _ _ _ _ _ _ (.int 0 :: _) _ _ _
                  refine G_widen (cs' := 0) (sl' := 0) (by omega) (by omega) ?_
                  refine G_istore (L' := [(7, .int 0), (6, .int 1), (5, .int g17816), (4, .int g17817), (0, .ref q16089), (1, .int p16090), (2, .int p16091), (3, .int p16092)]) dr_cX17_mayMerge_65 (Nat.le_of_ble_eq_true rfl) rfl ?_
                  refine G_iload 1 dr_cX17_mayMerge_67 rfl ?_
                  refine G_if_ne 80 dr_cX17_mayMerge_69 (by decide +kernel) (fun _ => ?_) (fun hc => absurd hc (by decide))
                  refine G_iload 3 dr_cX17_mayMerge_80 rfl ?_
                  refine G_aload_n 4 dr_cX17_mayMerge_82 rfl ?_
                  refine Gp_get 1 hm16100 he16101 dr_cX17_mayMerge_83 (gk_X17 D I) (Nat.le_of_ble_eq_true rfl) wr_7_75 rfl ?_
                  refine G_iload 2 dr_cX17_mayMerge_86 rfl ?_
                  obtain ⟨q17918, hx17920⟩ : ∃ x, x = γ 11 g17816.toInt.toNat := ⟨_, rfl⟩
                  have ht17919 : rKd γ q17918 36 := by rw [hx17920]; exact (hg16150 _ (show g17816.toInt.toNat < 2000 by omega)).2.1
                  refine Gp_aald 5 hm16147 he16148 dr_cX17_mayMerge_88 rfl rfl (gB_in bg17816' (by decide) (by decide)) ?_
                  rw [show f16149 g17816.toNatClampNeg = some q17918 from (hg16150 _ (show g17816.toInt.toNat < 2000 by omega)).1.trans (by rw [hx17920])]
                  change G _ _ _ _ _ _ _ (.ref q17918 :: _) _ _ _
                  have hm17921 : q17918 ∈ P16087 := RS_m hT ht17919 (by decide)
                  obtain ⟨f17923, he17922, wf17923⟩ := show rk_36 I (F16088 q17918) from RS_o hT ht17919
                  refine Gw_callS (As := [.ref q17918]) (gV_ok D I) (cp_1892_SpillForgeModel_count l hl0 D I P16087 F16088 q17918 f17923 hm17921 he17922) dr_cX17_mayMerge_89 ⟨wr_11_16, wr_1_14, wr_11_18, by decide, rfl, (Nat.le_of_ble_eq_true rfl), (Nat.le_of_ble_eq_true rfl)⟩ wr_11_17 (show 0 + 0 ≤ 0 by first | omega | decide) (show 0 + 0 ≤ 0 by first | omega | decide) (Nat.le_of_ble_eq_true rfl) (fun r17927 w17928 dc17924 ds17925 hp17926 => ?_) (fun _ _ _ _ _ z => z.elim)
                  obtain ⟨o17929, rfl, rfl, hdc, hds⟩ := hp17926
                  have bo17929 := gB_any o17929
                  change G _ _ _ _ _ _ _ (.int o17929 :: _) _ _ _
                  refine G_widen (cs' := 0) (sl' := 0) (by omega) (by omega) ?_
                  refine G_iload 1 dr_cX17_mayMerge_92 rfl ?_
                  refine G_if_eq 106 dr_cX17_mayMerge_94 (by decide +kernel) (fun hc => absurd hc (by decide)) (fun _ => ?_)
                  refine G_iload 0 dr_cX17_mayMerge_97 rfl ?_
                  refine G_if_eq 106 dr_cX17_mayMerge_99 (by decide +kernel) (fun _ => ?_) (fun hc => absurd hc (by decide))
                  refine G_iconst 0 dr_cX17_mayMerge_106 (by decide +kernel) ?_
                  refine G_isub dr_cX17_mayMerge_107 (G_nam fun z17930 hz17930 => ?_)
                  have ez17930 : z17930.toInt = o17929.toInt - 0 := by rw [gI_sub hz17930 bo17929 (gBl (show Int32.toInt 0 = 0 by decide)) (by decide) (by decide), show Int32.toInt 0 = 0 from by decide]
                  have bz17930 : gB z17930 (-2147483648) 2147483647 := gB_sub (gI_sub hz17930 bo17929 (gBl (show Int32.toInt 0 = 0 by decide)) (by decide) (by decide)) bo17929 (gBl (show Int32.toInt 0 = 0 by decide)) (by decide) (by decide)
                  refine G_iload_n 7 dr_cX17_mayMerge_108 rfl ?_
                  refine G_icmp_lt 116 dr_cX17_mayMerge_109 (by decide +kernel) (fun hc17931 => ?_) (fun hc17931 => ?_)
                  · have r17932 : z17930.toInt < p16092.toInt := gC_lt hc17931
                    have bz17930' : gB z17930 (-2147483648) 2147483646 := ⟨by omega, by omega⟩
                    have bp16092' : gB p16092 (-2147483647) 2147483647 := ⟨by omega, by omega⟩
                    refine G_iconst 0 dr_cX17_mayMerge_116 (by decide +kernel) ?_
                    refine G_iadd dr_cX17_mayMerge_117 (G_nam fun z17933 hz17933 => ?_)
                    have ez17933 : z17933.toInt = g17817.toInt + 0 := by rw [gI_add hz17933 bg17817 (gBl (show Int32.toInt 0 = 0 by decide)) (by decide) (by decide), show Int32.toInt 0 = 0 from by decide]
                    have bz17933 : gB z17933 (-2147483648) 2147483647 := gB_add (gI_add hz17933 bg17817 (gBl (show Int32.toInt 0 = 0 by decide)) (by decide) (by decide)) bg17817 (gBl (show Int32.toInt 0 = 0 by decide)) (by decide) (by decide)
                    refine G_istore (L' := [(4, .int z17933), (7, .int 0), (6, .int 1), (5, .int g17816), (0, .ref q16089), (1, .int p16090), (2, .int p16091), (3, .int p16092)]) dr_cX17_mayMerge_118 (Nat.le_of_ble_eq_true rfl) rfl ?_
                    obtain ⟨z17934, hz17934⟩ : ∃ z : Int32, z = g17816 + Int32.ofInt 1 := ⟨_, rfl⟩
                    have ez17934 : z17934.toInt = g17816.toInt + 1 := gI_inc hz17934 (by decide) bg17816' (by decide) (by decide)
                    have bz17934 : gB z17934 1 2000 := ⟨by omega, by omega⟩
                    refine G_iinc (L' := [(5, .int z17934), (4, .int z17933), (7, .int 0), (6, .int 1), (0, .ref q16089), (1, .int p16090), (2, .int p16091), (3, .int p16092)]) z17934 3 dr_cX17_mayMerge_120 rfl hz17934.symm (Nat.le_of_ble_eq_true rfl) rfl ?_
                    refine G_goto 33 dr_cX17_mayMerge_123 (by decide +kernel) ?_
                    refine G_lv (L' := [(5, .int z17934), (4, .int z17933), (0, .ref q16089), (1, .int p16090), (2, .int p16091), (3, .int p16092)]) [0, 1, 4, 5, 6, 7] rfl ?_
                    exact ih33_17817 z17934 z17933 (gB_w bz17934 (by decide) (by decide)) (by omega)
                  · have r17935 : p16092.toInt ≤ z17930.toInt := gC_nlt hc17931
                    refine G_iconst 1 dr_cX17_mayMerge_112 (by decide +kernel) ?_
                    refine G_goto 117 dr_cX17_mayMerge_113 (by decide +kernel) ?_
                    refine G_iadd dr_cX17_mayMerge_117 (G_nam fun z17936 hz17936 => ?_)
                    have bz17936 : gB z17936 (-2147483648) 2147483647 := gB_any z17936
                    refine G_istore (L' := [(4, .int z17936), (7, .int 0), (6, .int 1), (5, .int g17816), (0, .ref q16089), (1, .int p16090), (2, .int p16091), (3, .int p16092)]) dr_cX17_mayMerge_118 (Nat.le_of_ble_eq_true rfl) rfl ?_
                    obtain ⟨z17937, hz17937⟩ : ∃ z : Int32, z = g17816 + Int32.ofInt 1 := ⟨_, rfl⟩
                    have ez17937 : z17937.toInt = g17816.toInt + 1 := gI_inc hz17937 (by decide) bg17816' (by decide) (by decide)
                    have bz17937 : gB z17937 1 2000 := ⟨by omega, by omega⟩
                    refine G_iinc (L' := [(5, .int z17937), (4, .int z17936), (7, .int 0), (6, .int 1), (0, .ref q16089), (1, .int p16090), (2, .int p16091), (3, .int p16092)]) z17937 3 dr_cX17_mayMerge_120 rfl hz17937.symm (Nat.le_of_ble_eq_true rfl) rfl ?_
                    refine G_goto 33 dr_cX17_mayMerge_123 (by decide +kernel) ?_
                    refine G_lv (L' := [(5, .int z17937), (4, .int z17936), (0, .ref q16089), (1, .int p16090), (2, .int p16091), (3, .int p16092)]) [0, 1, 4, 5, 6, 7] rfl ?_
                    exact ih33_17817 z17937 z17936 (gB_w bz17937 (by decide) (by decide)) (by omega)
                · change G _ _ _ _ _ _ _ (.int 1 :: _) _ _ _
                  refine G_widen (cs' := 0) (sl' := 0) (by omega) (by omega) ?_
                  refine G_istore (L' := [(7, .int 1), (6, .int 1), (5, .int g17816), (4, .int g17817), (0, .ref q16089), (1, .int p16090), (2, .int p16091), (3, .int p16092)]) dr_cX17_mayMerge_65 (Nat.le_of_ble_eq_true rfl) rfl ?_
                  refine G_iload 1 dr_cX17_mayMerge_67 rfl ?_
                  refine G_if_ne 80 dr_cX17_mayMerge_69 (by decide +kernel) (fun _ => ?_) (fun hc => absurd hc (by decide))
                  refine G_iload 3 dr_cX17_mayMerge_80 rfl ?_
                  refine G_aload_n 4 dr_cX17_mayMerge_82 rfl ?_
                  refine Gp_get 1 hm16100 he16101 dr_cX17_mayMerge_83 (gk_X17 D I) (Nat.le_of_ble_eq_true rfl) wr_7_75 rfl ?_
                  refine G_iload 2 dr_cX17_mayMerge_86 rfl ?_
                  obtain ⟨q17938, hx17940⟩ : ∃ x, x = γ 11 g17816.toInt.toNat := ⟨_, rfl⟩
                  have ht17939 : rKd γ q17938 36 := by rw [hx17940]; exact (hg16150 _ (show g17816.toInt.toNat < 2000 by omega)).2.1
                  refine Gp_aald 5 hm16147 he16148 dr_cX17_mayMerge_88 rfl rfl (gB_in bg17816' (by decide) (by decide)) ?_
                  rw [show f16149 g17816.toNatClampNeg = some q17938 from (hg16150 _ (show g17816.toInt.toNat < 2000 by omega)).1.trans (by rw [hx17940])]
                  change G _ _ _ _ _ _ _ (.ref q17938 :: _) _ _ _
                  have hm17941 : q17938 ∈ P16087 := RS_m hT ht17939 (by decide)
                  obtain ⟨f17943, he17942, wf17943⟩ := show rk_36 I (F16088 q17938) from RS_o hT ht17939
                  refine Gw_callS (As := [.ref q17938]) (gV_ok D I) (cp_1892_SpillForgeModel_count l hl0 D I P16087 F16088 q17938 f17943 hm17941 he17942) dr_cX17_mayMerge_89 ⟨wr_11_16, wr_1_14, wr_11_18, by decide, rfl, (Nat.le_of_ble_eq_true rfl), (Nat.le_of_ble_eq_true rfl)⟩ wr_11_17 (show 0 + 0 ≤ 0 by first | omega | decide) (show 0 + 0 ≤ 0 by first | omega | decide) (Nat.le_of_ble_eq_true rfl) (fun r17947 w17948 dc17944 ds17945 hp17946 => ?_) (fun _ _ _ _ _ z => z.elim)
                  obtain ⟨o17949, rfl, rfl, hdc, hds⟩ := hp17946
                  have bo17949 := gB_any o17949
                  change G _ _ _ _ _ _ _ (.int o17949 :: _) _ _ _
                  refine G_widen (cs' := 0) (sl' := 0) (by omega) (by omega) ?_
                  refine G_iload 1 dr_cX17_mayMerge_92 rfl ?_
                  refine G_if_eq 106 dr_cX17_mayMerge_94 (by decide +kernel) (fun hc => absurd hc (by decide)) (fun _ => ?_)
                  refine G_iload 0 dr_cX17_mayMerge_97 rfl ?_
                  refine G_if_eq 106 dr_cX17_mayMerge_99 (by decide +kernel) (fun hc => absurd hc (by decide)) (fun _ => ?_)
                  refine G_iconst 1 dr_cX17_mayMerge_102 (by decide +kernel) ?_
                  refine G_goto 107 dr_cX17_mayMerge_103 (by decide +kernel) ?_
                  refine G_isub dr_cX17_mayMerge_107 (G_nam fun z17950 hz17950 => ?_)
                  have bz17950 : gB z17950 (-2147483648) 2147483647 := gB_any z17950
                  refine G_iload_n 7 dr_cX17_mayMerge_108 rfl ?_
                  refine G_icmp_lt 116 dr_cX17_mayMerge_109 (by decide +kernel) (fun hc17951 => ?_) (fun hc17951 => ?_)
                  · have r17952 : z17950.toInt < p16092.toInt := gC_lt hc17951
                    have bz17950' : gB z17950 (-2147483648) 2147483646 := ⟨by omega, by omega⟩
                    have bp16092' : gB p16092 (-2147483647) 2147483647 := ⟨by omega, by omega⟩
                    refine G_iconst 0 dr_cX17_mayMerge_116 (by decide +kernel) ?_
                    refine G_iadd dr_cX17_mayMerge_117 (G_nam fun z17953 hz17953 => ?_)
                    have ez17953 : z17953.toInt = g17817.toInt + 0 := by rw [gI_add hz17953 bg17817 (gBl (show Int32.toInt 0 = 0 by decide)) (by decide) (by decide), show Int32.toInt 0 = 0 from by decide]
                    have bz17953 : gB z17953 (-2147483648) 2147483647 := gB_add (gI_add hz17953 bg17817 (gBl (show Int32.toInt 0 = 0 by decide)) (by decide) (by decide)) bg17817 (gBl (show Int32.toInt 0 = 0 by decide)) (by decide) (by decide)
                    refine G_istore (L' := [(4, .int z17953), (7, .int 1), (6, .int 1), (5, .int g17816), (0, .ref q16089), (1, .int p16090), (2, .int p16091), (3, .int p16092)]) dr_cX17_mayMerge_118 (Nat.le_of_ble_eq_true rfl) rfl ?_
                    obtain ⟨z17954, hz17954⟩ : ∃ z : Int32, z = g17816 + Int32.ofInt 1 := ⟨_, rfl⟩
                    have ez17954 : z17954.toInt = g17816.toInt + 1 := gI_inc hz17954 (by decide) bg17816' (by decide) (by decide)
                    have bz17954 : gB z17954 1 2000 := ⟨by omega, by omega⟩
                    refine G_iinc (L' := [(5, .int z17954), (4, .int z17953), (7, .int 1), (6, .int 1), (0, .ref q16089), (1, .int p16090), (2, .int p16091), (3, .int p16092)]) z17954 3 dr_cX17_mayMerge_120 rfl hz17954.symm (Nat.le_of_ble_eq_true rfl) rfl ?_
                    refine G_goto 33 dr_cX17_mayMerge_123 (by decide +kernel) ?_
                    refine G_lv (L' := [(5, .int z17954), (4, .int z17953), (0, .ref q16089), (1, .int p16090), (2, .int p16091), (3, .int p16092)]) [0, 1, 4, 5, 6, 7] rfl ?_
                    exact ih33_17817 z17954 z17953 (gB_w bz17954 (by decide) (by decide)) (by omega)
                  · have r17955 : p16092.toInt ≤ z17950.toInt := gC_nlt hc17951
                    refine G_iconst 1 dr_cX17_mayMerge_112 (by decide +kernel) ?_
                    refine G_goto 117 dr_cX17_mayMerge_113 (by decide +kernel) ?_
                    refine G_iadd dr_cX17_mayMerge_117 (G_nam fun z17956 hz17956 => ?_)
                    have bz17956 : gB z17956 (-2147483648) 2147483647 := gB_any z17956
                    refine G_istore (L' := [(4, .int z17956), (7, .int 1), (6, .int 1), (5, .int g17816), (0, .ref q16089), (1, .int p16090), (2, .int p16091), (3, .int p16092)]) dr_cX17_mayMerge_118 (Nat.le_of_ble_eq_true rfl) rfl ?_
                    obtain ⟨z17957, hz17957⟩ : ∃ z : Int32, z = g17816 + Int32.ofInt 1 := ⟨_, rfl⟩
                    have ez17957 : z17957.toInt = g17816.toInt + 1 := gI_inc hz17957 (by decide) bg17816' (by decide) (by decide)
                    have bz17957 : gB z17957 1 2000 := ⟨by omega, by omega⟩
                    refine G_iinc (L' := [(5, .int z17957), (4, .int z17956), (7, .int 1), (6, .int 1), (0, .ref q16089), (1, .int p16090), (2, .int p16091), (3, .int p16092)]) z17957 3 dr_cX17_mayMerge_120 rfl hz17957.symm (Nat.le_of_ble_eq_true rfl) rfl ?_
                    refine G_goto 33 dr_cX17_mayMerge_123 (by decide +kernel) ?_
                    refine G_lv (L' := [(5, .int z17957), (4, .int z17956), (0, .ref q16089), (1, .int p16090), (2, .int p16091), (3, .int p16092)]) [0, 1, 4, 5, 6, 7] rfl ?_
                    exact ih33_17817 z17957 z17956 (gB_w bz17957 (by decide) (by decide)) (by omega)
        exact hlp33_17817 (((2001 : Int) - 0).toNat + 1) 0 0 (gB_w (gBl (show Int32.toInt 0 = 0 by decide)) (by decide) (by decide)) (Nat.lt_succ_self _)
      · change G _ _ _ _ _ _ _ (.int 1 :: _) _ _ _
        refine G_widen (cs' := 0) (sl' := 0) (by omega) (by omega) ?_
        refine G_if_eq 27 dr_cX17_mayMerge_22 (by decide +kernel) (fun hc => absurd hc (by decide)) (fun _ => ?_)
        refine G_iconst 0 dr_cX17_mayMerge_25 (by decide +kernel) ?_
        exact G_zretA FieldType.boolean dr_cX17_mayMerge_26 rfl rfl (Nat.le_of_ble_eq_true rfl) (Nat.le_of_ble_eq_true rfl) ⟨0, rfl, rfl, (Nat.le_of_ble_eq_true rfl), (Nat.le_of_ble_eq_true rfl), (gB_w (gBl (show Int32.toInt 0 = 0 by decide)) (by decide) (by decide))⟩
abbrev ky_17964_SpillForgeModel_next : gKey := (cX17_next, 7, "SpillForgeModel", (some FieldType.int), [], "next", fun _ _ => True)
def pt_17964_SpillForgeModel_next (D : va_G) (I : FieldType → ClassId) (γ el : Nat → Nat → Nat) (P17960 : List Nat) (F17961 : Nat → va_E) (q17962 : Nat) (p17963 : Int32) : Option Value → va_W → Nat → Nat → Prop := fun r w dc ds => ∃ (o19516 : Int32), r = some (.int o19516) ∧ w = va_pl P17960 F17961 ∧ dc ≤ 0 ∧ ds ≤ 0 ∧ gB o19516 (-1) 1999
set_option maxRecDepth 100000 in
set_option maxHeartbeats 4000000 in
theorem ct_17964_SpillForgeModel_next (l : Launch) (hl0 : l.stackTraces = false) (D : va_G) (I : FieldType → ClassId) (γ el : Nat → Nat → Nat) (P17960 : List Nat) (F17961 : Nat → va_E) (q17962 : Nat) (p17963 : Int32) (hT : RS D I P17960 F17961 γ el) (htq17962 : rKd γ q17962 10) : CtA (gV D I) l yX17_next cX17_next 7 (some FieldType.int) 0 0 0 0 [.ref q17962, .int p17963] (va_pl P17960 F17961) (pt_17964_SpillForgeModel_next D I γ el P17960 F17961 q17962 p17963) gNA := by
  refine CtA_of hl0 (by decide) (Nat.le_of_ble_eq_true rfl) ?_
  have bp17963 := gB_any p17963
  refine G_iconst 0 dr_cX17_next_0 (by decide +kernel) ?_
  refine G_istore_n (L' := [(2, .int 0), (0, .ref q17962), (1, .int p17963)]) dr_cX17_next_1 (Nat.le_of_ble_eq_true rfl) rfl ?_
  have hlp2_19167 : ∀ (n2_19167 : Nat) (g19167 : Int32), gB g19167 0 2000 → ((2001 : Int) - g19167.toInt).toNat < n2_19167 → G (gV D I) l (gRm 0 0 0 0) (gMA (gV D I) (pt_17964_SpillForgeModel_next D I γ el P17960 F17961 q17962 p17963) gNA 0 0) ky_17964_SpillForgeModel_next 2 [(2, .int g19167), (0, .ref q17962), (1, .int p17963)] [] (va_pl P17960 F17961) 0 0 := by
    intro n2_19167
    induction n2_19167 with
    | zero => intro g19167 bg19167 hm2_19167; exact absurd hm2_19167 (Nat.not_lt_zero _)
    | succ n2_19167 ih2_19167 =>
      intro g19167 bg19167 hm2_19167
      refine G_iload_n 0 dr_cX17_next_2 rfl ?_
      refine G_sipush 2000 dr_cX17_next_3 (by decide +kernel) ?_
      refine G_icmp_ge 36 dr_cX17_next_6 (by decide +kernel) (fun hc19169 => ?_) (fun hc19169 => ?_)
      · have r19170 : 2000 ≤ g19167.toInt := gj_leL hc19169 (show Int32.toInt 2000 = 2000 by decide)
        have bg19167' : gB g19167 2000 2000 := ⟨by omega, by omega⟩
        refine G_iconst (-1) dr_cX17_next_36 (by decide +kernel) ?_
        refine G_istore_n (L' := [(2, .int (-1)), (0, .ref q17962), (1, .int p17963)]) dr_cX17_next_37 (Nat.le_of_ble_eq_true rfl) rfl ?_
        refine G_iconst 0 dr_cX17_next_38 (by decide +kernel) ?_
        refine G_istore_n (L' := [(3, .int 0), (2, .int (-1)), (0, .ref q17962), (1, .int p17963)]) dr_cX17_next_39 (Nat.le_of_ble_eq_true rfl) rfl ?_
        have hlp40_19312 : ∀ (n40_19312 : Nat) (g19311 : Int32) (g19312 : Int32), gB g19311 0 2000 → gB g19312 (-1) 1999 → ((2001 : Int) - g19311.toInt).toNat < n40_19312 → G (gV D I) l (gRm 0 0 0 0) (gMA (gV D I) (pt_17964_SpillForgeModel_next D I γ el P17960 F17961 q17962 p17963) gNA 0 0) ky_17964_SpillForgeModel_next 40 [(3, .int g19311), (2, .int g19312), (0, .ref q17962), (1, .int p17963)] [] (va_pl P17960 F17961) 0 0 := by
          intro n40_19312
          induction n40_19312 with
          | zero => intro g19311 g19312 bg19311 bg19312 hm40_19312; exact absurd hm40_19312 (Nat.not_lt_zero _)
          | succ n40_19312 ih40_19312 =>
            intro g19311 g19312 bg19311 bg19312 hm40_19312
            refine G_iload_n 0 dr_cX17_next_40 rfl ?_
            refine G_sipush 2000 dr_cX17_next_41 (by decide +kernel) ?_
            refine G_icmp_ge 171 dr_cX17_next_44 (by decide +kernel) (fun hc19314 => ?_) (fun hc19314 => ?_)
            · have r19315 : 2000 ≤ g19311.toInt := gj_leL hc19314 (show Int32.toInt 2000 = 2000 by decide)
              have bg19311' : gB g19311 2000 2000 := ⟨by omega, by omega⟩
              refine G_iload_n 1 dr_cX17_next_171 rfl ?_
              exact G_iretA dr_cX17_next_172 rfl (Nat.le_of_ble_eq_true rfl) (Nat.le_of_ble_eq_true rfl) ⟨g19312, rfl, rfl, (Nat.le_of_ble_eq_true rfl), (Nat.le_of_ble_eq_true rfl), bg19312⟩
            · have r19316 : g19311.toInt < 2000 := gj_nleL hc19314 (show Int32.toInt 2000 = 2000 by decide)
              have bg19311' : gB g19311 0 1999 := ⟨by omega, by omega⟩
              refine G_aload_n 2 dr_cX17_next_47 rfl ?_
              have hm19317 : q17962 ∈ P17960 := RS_m hT htq17962 (by decide)
              obtain ⟨q19319, q19320, p19321, p19322, p19323, p19324, p19325, p19326, p19327, p19328, p19329, p19330, p19331, p19332, p19333, p19334, p19335, he19318, hB19362, ht19336, ht19337, ht19338, ht19339, ht19340, ht19341, ht19342, ht19343, ht19344, ht19345, ht19346, ht19347, ht19348, ht19349, ht19350, ht19351, ht19352, ht19353, ht19354, ht19355, ht19356, ht19357, ht19358, ht19359, hB19363⟩ := show rk_10 γ (F17961 q17962) from RS_o hT htq17962
              refine Gp_get 18 hm19317 he19318 dr_cX17_next_48 (gk_X17 D I) (Nat.le_of_ble_eq_true rfl) wr_7_92 rfl ?_
              refine G_iload_n 0 dr_cX17_next_51 rfl ?_
              have hm19364 : (γ 9 18) ∈ P17960 := RS_m hT ht19350 (by decide)
              obtain ⟨f19366, he19365, bf19366⟩ := show rk_15 I (F17961 (γ 9 18)) from RS_o hT ht19350
              refine Gp_zald 3 hm19364 he19365 dr_cX17_next_52 rfl (gB_in bg19311' (by decide) (by decide)) (G_nam fun z19367 hz19367 => ?_)
              have bz19367 : gB z19367 0 1 := by rw [hz19367]; exact bf19366 _
              refine G_if_ne 59 dr_cX17_next_53 (by decide +kernel) (fun hc19368 => ?_) (fun hc19368 => ?_)
              · have r19369 : z19367.toInt ≠ 0 := gj_neq hc19368 (show Int32.toInt 0 = 0 by decide)
                have bz19367' : gB z19367 1 1 := ⟨by omega, by omega⟩
                refine G_iload_n 1 dr_cX17_next_59 rfl ?_
                refine G_if_ge 68 dr_cX17_next_60 (by decide +kernel) (fun hc19370 => ?_) (fun hc19370 => ?_)
                · have r19371 : 0 ≤ g19312.toInt := gj_leL hc19370 (show Int32.toInt 0 = 0 by decide)
                  have bg19312' : gB g19312 0 1999 := ⟨by omega, by omega⟩
                  refine G_iload_n 0 dr_cX17_next_68 rfl ?_
                  refine G_bipush 100 dr_cX17_next_69 (by decide +kernel) ?_
                  refine G_icmp_lt 78 dr_cX17_next_71 (by decide +kernel) (fun hc19372 => ?_) (fun hc19372 => ?_)
                  · have r19373 : g19311.toInt < 100 := gj_lt hc19372 (show Int32.toInt 100 = 100 by decide)
                    have bg19311'' : gB g19311 0 99 := ⟨by omega, by omega⟩
                    refine G_iconst 0 dr_cX17_next_78 (by decide +kernel) ?_
                    refine G_istore (L' := [(4, .int 0), (3, .int g19311), (2, .int g19312), (0, .ref q17962), (1, .int p17963)]) dr_cX17_next_79 (Nat.le_of_ble_eq_true rfl) rfl ?_
                    refine G_iload_n 2 dr_cX17_next_81 rfl ?_
                    refine G_bipush 100 dr_cX17_next_82 (by decide +kernel) ?_
                    refine G_icmp_lt 91 dr_cX17_next_84 (by decide +kernel) (fun hc19374 => ?_) (fun hc19374 => ?_)
                    · have r19375 : g19312.toInt < 100 := gj_lt hc19374 (show Int32.toInt 100 = 100 by decide)
                      have bg19312'' : gB g19312 0 99 := ⟨by omega, by omega⟩
                      refine G_iconst 0 dr_cX17_next_91 (by decide +kernel) ?_
                      refine G_istore (L' := [(5, .int 0), (4, .int 0), (3, .int g19311), (2, .int g19312), (0, .ref q17962), (1, .int p17963)]) dr_cX17_next_92 (Nat.le_of_ble_eq_true rfl) rfl ?_
                      refine G_iload 1 dr_cX17_next_94 rfl ?_
                      refine G_if_eq 107 dr_cX17_next_96 (by decide +kernel) (fun _ => ?_) (fun hc => absurd hc (by decide))
                      refine G_aload_n 4 dr_cX17_next_107 rfl ?_
                      refine Gp_get 5 hm19317 he19318 dr_cX17_next_108 (gk_X17 D I) (Nat.le_of_ble_eq_true rfl) wr_7_79 rfl ?_
                      refine G_iload_n 2 dr_cX17_next_111 rfl ?_
                      have hm19376 : (γ 9 5) ∈ P17960 := RS_m hT ht19343 (by decide)
                      obtain ⟨f19378, he19377⟩ := show rk_17 I (F17961 (γ 9 5)) from RS_o hT ht19343
                      refine Gp_iald 0 hm19376 he19377 dr_cX17_next_112 rfl (gB_in bg19311'' (by decide) (by decide)) (G_nam fun z19379 hz19379 => ?_)
                      have bz19379 : gB z19379 (-2147483648) 2147483647 := gB_any z19379
                      refine G_i2l dr_cX17_next_113 (G_namL fun u19380 hu19380 => ?_)
                      refine G_aload_n 4 dr_cX17_next_114 rfl ?_
                      refine Gp_get 16 hm19317 he19318 dr_cX17_next_115 (gk_X17 D I) (Nat.le_of_ble_eq_true rfl) wr_7_90 rfl ?_
                      refine G_iload_n 3 dr_cX17_next_118 rfl ?_
                      have hm19381 : (γ 9 16) ∈ P17960 := RS_m hT ht19348 (by decide)
                      obtain ⟨f19383, he19382⟩ := show rk_19 I (F17961 (γ 9 16)) from RS_o hT ht19348
                      refine Gp_iald 0 hm19381 he19382 dr_cX17_next_119 rfl (gB_in bg19312'' (by decide) (by decide)) (G_nam fun z19384 hz19384 => ?_)
                      have bz19384 : gB z19384 (-2147483648) 2147483647 := gB_any z19384
                      refine G_i2l dr_cX17_next_120 (G_namL fun u19385 hu19385 => ?_)
                      refine G_lmul dr_cX17_next_121 (G_namL fun u19386 hu19386 => ?_)
                      refine G_aload_n 4 dr_cX17_next_122 rfl ?_
                      refine Gp_get 5 hm19317 he19318 dr_cX17_next_123 (gk_X17 D I) (Nat.le_of_ble_eq_true rfl) wr_7_79 rfl ?_
                      refine G_iload_n 3 dr_cX17_next_126 rfl ?_
                      refine Gp_iald 0 hm19376 he19377 dr_cX17_next_127 rfl (gB_in bg19312'' (by decide) (by decide)) (G_nam fun z19387 hz19387 => ?_)
                      have bz19387 : gB z19387 (-2147483648) 2147483647 := gB_any z19387
                      refine G_i2l dr_cX17_next_128 (G_namL fun u19388 hu19388 => ?_)
                      refine G_aload_n 4 dr_cX17_next_129 rfl ?_
                      refine Gp_get 16 hm19317 he19318 dr_cX17_next_130 (gk_X17 D I) (Nat.le_of_ble_eq_true rfl) wr_7_90 rfl ?_
                      refine G_iload_n 2 dr_cX17_next_133 rfl ?_
                      refine Gp_iald 0 hm19381 he19382 dr_cX17_next_134 rfl (gB_in bg19311'' (by decide) (by decide)) (G_nam fun z19389 hz19389 => ?_)
                      have bz19389 : gB z19389 (-2147483648) 2147483647 := gB_any z19389
                      refine G_i2l dr_cX17_next_135 (G_namL fun u19390 hu19390 => ?_)
                      refine G_lmul dr_cX17_next_136 (G_namL fun u19391 hu19391 => ?_)
                      refine G_lcmp dr_cX17_next_137 (G_nam fun z19392 hz19392 => ?_)
                      have bz19392 : gB z19392 (-1) 1 := gB_cmp hz19392
                      refine G_if_ge 145 dr_cX17_next_138 (by decide +kernel) (fun hc19393 => ?_) (fun hc19393 => ?_)
                      · have r19394 : 0 ≤ z19392.toInt := gj_leL hc19393 (show Int32.toInt 0 = 0 by decide)
                        have bz19392' : gB z19392 0 1 := ⟨by omega, by omega⟩
                        refine G_iconst 0 dr_cX17_next_145 (by decide +kernel) ?_
                        refine G_istore (L' := [(6, .int 0), (5, .int 0), (4, .int 0), (3, .int g19311), (2, .int g19312), (0, .ref q17962), (1, .int p17963)]) dr_cX17_next_146 (Nat.le_of_ble_eq_true rfl) rfl ?_
                        refine G_iload 2 dr_cX17_next_148 rfl ?_
                        refine G_if_ne 158 dr_cX17_next_150 (by decide +kernel) (fun hc => absurd hc (by decide)) (fun _ => ?_)
                        refine G_iload 1 dr_cX17_next_153 rfl ?_
                        refine G_if_ne 163 dr_cX17_next_155 (by decide +kernel) (fun hc => absurd hc (by decide)) (fun _ => ?_)
                        refine G_iload 0 dr_cX17_next_158 rfl ?_
                        refine G_if_eq 165 dr_cX17_next_160 (by decide +kernel) (fun _ => ?_) (fun hc => absurd hc (by decide))
                        obtain ⟨z19395, hz19395⟩ : ∃ z : Int32, z = g19311 + Int32.ofInt 1 := ⟨_, rfl⟩
                        have ez19395 : z19395.toInt = g19311.toInt + 1 := gI_inc hz19395 (by decide) bg19311'' (by decide) (by decide)
                        have bz19395 : gB z19395 1 100 := ⟨by omega, by omega⟩
                        refine G_iinc (L' := [(3, .int z19395), (6, .int 0), (5, .int 0), (4, .int 0), (2, .int g19312), (0, .ref q17962), (1, .int p17963)]) z19395 3 dr_cX17_next_165 rfl hz19395.symm (Nat.le_of_ble_eq_true rfl) rfl ?_
                        refine G_goto 40 dr_cX17_next_168 (by decide +kernel) ?_
                        refine G_lv (L' := [(3, .int z19395), (2, .int g19312), (0, .ref q17962), (1, .int p17963)]) [0, 4, 5, 6] rfl ?_
                        exact ih40_19312 z19395 g19312 (gB_w bz19395 (by decide) (by decide)) (gB_w bg19312'' (by decide) (by decide)) (by omega)
                      · have r19396 : z19392.toInt < 0 := gj_nleL hc19393 (show Int32.toInt 0 = 0 by decide)
                        have bz19392' : gB z19392 (-1) (-1) := ⟨by omega, by omega⟩
                        have lhc19393 := gC_cmpS hz19392 (by omega)
                        refine G_iconst 1 dr_cX17_next_141 (by decide +kernel) ?_
                        refine G_goto 146 dr_cX17_next_142 (by decide +kernel) ?_
                        refine G_istore (L' := [(6, .int 1), (5, .int 0), (4, .int 0), (3, .int g19311), (2, .int g19312), (0, .ref q17962), (1, .int p17963)]) dr_cX17_next_146 (Nat.le_of_ble_eq_true rfl) rfl ?_
                        refine G_iload 2 dr_cX17_next_148 rfl ?_
                        refine G_if_ne 158 dr_cX17_next_150 (by decide +kernel) (fun hc => absurd hc (by decide)) (fun _ => ?_)
                        refine G_iload 1 dr_cX17_next_153 rfl ?_
                        refine G_if_ne 163 dr_cX17_next_155 (by decide +kernel) (fun hc => absurd hc (by decide)) (fun _ => ?_)
                        refine G_iload 0 dr_cX17_next_158 rfl ?_
                        refine G_if_eq 165 dr_cX17_next_160 (by decide +kernel) (fun hc => absurd hc (by decide)) (fun _ => ?_)
                        refine G_iload_n 3 dr_cX17_next_163 rfl ?_
                        refine G_istore_n (L' := [(2, .int g19311), (6, .int 1), (5, .int 0), (4, .int 0), (3, .int g19311), (0, .ref q17962), (1, .int p17963)]) dr_cX17_next_164 (Nat.le_of_ble_eq_true rfl) rfl ?_
                        obtain ⟨z19397, hz19397⟩ : ∃ z : Int32, z = g19311 + Int32.ofInt 1 := ⟨_, rfl⟩
                        have ez19397 : z19397.toInt = g19311.toInt + 1 := gI_inc hz19397 (by decide) bg19311'' (by decide) (by decide)
                        have bz19397 : gB z19397 1 100 := ⟨by omega, by omega⟩
                        refine G_iinc (L' := [(3, .int z19397), (2, .int g19311), (6, .int 1), (5, .int 0), (4, .int 0), (0, .ref q17962), (1, .int p17963)]) z19397 4 dr_cX17_next_165 rfl hz19397.symm (Nat.le_of_ble_eq_true rfl) rfl ?_
                        refine G_goto 40 dr_cX17_next_168 (by decide +kernel) ?_
                        refine G_lv (L' := [(3, .int z19397), (2, .int g19311), (0, .ref q17962), (1, .int p17963)]) [0, 1, 5, 6] rfl ?_
                        exact ih40_19312 z19397 g19311 (gB_w bz19397 (by decide) (by decide)) (gB_w bg19311'' (by decide) (by decide)) (by omega)
                    · have r19398 : 100 ≤ g19312.toInt := gj_nlt hc19374 (show Int32.toInt 100 = 100 by decide)
                      have bg19312'' : gB g19312 100 1999 := ⟨by omega, by omega⟩
                      refine G_iconst 1 dr_cX17_next_87 (by decide +kernel) ?_
                      refine G_goto 92 dr_cX17_next_88 (by decide +kernel) ?_
                      refine G_istore (L' := [(5, .int 1), (4, .int 0), (3, .int g19311), (2, .int g19312), (0, .ref q17962), (1, .int p17963)]) dr_cX17_next_92 (Nat.le_of_ble_eq_true rfl) rfl ?_
                      refine G_iload 1 dr_cX17_next_94 rfl ?_
                      refine G_if_eq 107 dr_cX17_next_96 (by decide +kernel) (fun _ => ?_) (fun hc => absurd hc (by decide))
                      refine G_aload_n 4 dr_cX17_next_107 rfl ?_
                      refine Gp_get 5 hm19317 he19318 dr_cX17_next_108 (gk_X17 D I) (Nat.le_of_ble_eq_true rfl) wr_7_79 rfl ?_
                      refine G_iload_n 2 dr_cX17_next_111 rfl ?_
                      have hm19399 : (γ 9 5) ∈ P17960 := RS_m hT ht19343 (by decide)
                      obtain ⟨f19401, he19400⟩ := show rk_17 I (F17961 (γ 9 5)) from RS_o hT ht19343
                      refine Gp_iald 0 hm19399 he19400 dr_cX17_next_112 rfl (gB_in bg19311'' (by decide) (by decide)) (G_nam fun z19402 hz19402 => ?_)
                      have bz19402 : gB z19402 (-2147483648) 2147483647 := gB_any z19402
                      refine G_i2l dr_cX17_next_113 (G_namL fun u19403 hu19403 => ?_)
                      refine G_aload_n 4 dr_cX17_next_114 rfl ?_
                      refine Gp_get 16 hm19317 he19318 dr_cX17_next_115 (gk_X17 D I) (Nat.le_of_ble_eq_true rfl) wr_7_90 rfl ?_
                      refine G_iload_n 3 dr_cX17_next_118 rfl ?_
                      have hm19404 : (γ 9 16) ∈ P17960 := RS_m hT ht19348 (by decide)
                      obtain ⟨f19406, he19405⟩ := show rk_19 I (F17961 (γ 9 16)) from RS_o hT ht19348
                      refine Gp_iald 0 hm19404 he19405 dr_cX17_next_119 rfl (gB_in bg19312'' (by decide) (by decide)) (G_nam fun z19407 hz19407 => ?_)
                      have bz19407 : gB z19407 (-2147483648) 2147483647 := gB_any z19407
                      refine G_i2l dr_cX17_next_120 (G_namL fun u19408 hu19408 => ?_)
                      refine G_lmul dr_cX17_next_121 (G_namL fun u19409 hu19409 => ?_)
                      refine G_aload_n 4 dr_cX17_next_122 rfl ?_
                      refine Gp_get 5 hm19317 he19318 dr_cX17_next_123 (gk_X17 D I) (Nat.le_of_ble_eq_true rfl) wr_7_79 rfl ?_
                      refine G_iload_n 3 dr_cX17_next_126 rfl ?_
                      refine Gp_iald 0 hm19399 he19400 dr_cX17_next_127 rfl (gB_in bg19312'' (by decide) (by decide)) (G_nam fun z19410 hz19410 => ?_)
                      have bz19410 : gB z19410 (-2147483648) 2147483647 := gB_any z19410
                      refine G_i2l dr_cX17_next_128 (G_namL fun u19411 hu19411 => ?_)
                      refine G_aload_n 4 dr_cX17_next_129 rfl ?_
                      refine Gp_get 16 hm19317 he19318 dr_cX17_next_130 (gk_X17 D I) (Nat.le_of_ble_eq_true rfl) wr_7_90 rfl ?_
                      refine G_iload_n 2 dr_cX17_next_133 rfl ?_
                      refine Gp_iald 0 hm19404 he19405 dr_cX17_next_134 rfl (gB_in bg19311'' (by decide) (by decide)) (G_nam fun z19412 hz19412 => ?_)
                      have bz19412 : gB z19412 (-2147483648) 2147483647 := gB_any z19412
                      refine G_i2l dr_cX17_next_135 (G_namL fun u19413 hu19413 => ?_)
                      refine G_lmul dr_cX17_next_136 (G_namL fun u19414 hu19414 => ?_)
                      refine G_lcmp dr_cX17_next_137 (G_nam fun z19415 hz19415 => ?_)
                      have bz19415 : gB z19415 (-1) 1 := gB_cmp hz19415
                      refine G_if_ge 145 dr_cX17_next_138 (by decide +kernel) (fun hc19416 => ?_) (fun hc19416 => ?_)
                      · have r19417 : 0 ≤ z19415.toInt := gj_leL hc19416 (show Int32.toInt 0 = 0 by decide)
                        have bz19415' : gB z19415 0 1 := ⟨by omega, by omega⟩
                        refine G_iconst 0 dr_cX17_next_145 (by decide +kernel) ?_
                        refine G_istore (L' := [(6, .int 0), (5, .int 1), (4, .int 0), (3, .int g19311), (2, .int g19312), (0, .ref q17962), (1, .int p17963)]) dr_cX17_next_146 (Nat.le_of_ble_eq_true rfl) rfl ?_
                        refine G_iload 2 dr_cX17_next_148 rfl ?_
                        refine G_if_ne 158 dr_cX17_next_150 (by decide +kernel) (fun hc => absurd hc (by decide)) (fun _ => ?_)
                        refine G_iload 1 dr_cX17_next_153 rfl ?_
                        refine G_if_ne 163 dr_cX17_next_155 (by decide +kernel) (fun _ => ?_) (fun hc => absurd hc (by decide))
                        refine G_iload_n 3 dr_cX17_next_163 rfl ?_
                        refine G_istore_n (L' := [(2, .int g19311), (6, .int 0), (5, .int 1), (4, .int 0), (3, .int g19311), (0, .ref q17962), (1, .int p17963)]) dr_cX17_next_164 (Nat.le_of_ble_eq_true rfl) rfl ?_
                        obtain ⟨z19418, hz19418⟩ : ∃ z : Int32, z = g19311 + Int32.ofInt 1 := ⟨_, rfl⟩
                        have ez19418 : z19418.toInt = g19311.toInt + 1 := gI_inc hz19418 (by decide) bg19311'' (by decide) (by decide)
                        have bz19418 : gB z19418 1 100 := ⟨by omega, by omega⟩
                        refine G_iinc (L' := [(3, .int z19418), (2, .int g19311), (6, .int 0), (5, .int 1), (4, .int 0), (0, .ref q17962), (1, .int p17963)]) z19418 4 dr_cX17_next_165 rfl hz19418.symm (Nat.le_of_ble_eq_true rfl) rfl ?_
                        refine G_goto 40 dr_cX17_next_168 (by decide +kernel) ?_
                        refine G_lv (L' := [(3, .int z19418), (2, .int g19311), (0, .ref q17962), (1, .int p17963)]) [0, 1, 5, 6] rfl ?_
                        exact ih40_19312 z19418 g19311 (gB_w bz19418 (by decide) (by decide)) (gB_w bg19311'' (by decide) (by decide)) (by omega)
                      · have r19419 : z19415.toInt < 0 := gj_nleL hc19416 (show Int32.toInt 0 = 0 by decide)
                        have bz19415' : gB z19415 (-1) (-1) := ⟨by omega, by omega⟩
                        have lhc19416 := gC_cmpS hz19415 (by omega)
                        refine G_iconst 1 dr_cX17_next_141 (by decide +kernel) ?_
                        refine G_goto 146 dr_cX17_next_142 (by decide +kernel) ?_
                        refine G_istore (L' := [(6, .int 1), (5, .int 1), (4, .int 0), (3, .int g19311), (2, .int g19312), (0, .ref q17962), (1, .int p17963)]) dr_cX17_next_146 (Nat.le_of_ble_eq_true rfl) rfl ?_
                        refine G_iload 2 dr_cX17_next_148 rfl ?_
                        refine G_if_ne 158 dr_cX17_next_150 (by decide +kernel) (fun hc => absurd hc (by decide)) (fun _ => ?_)
                        refine G_iload 1 dr_cX17_next_153 rfl ?_
                        refine G_if_ne 163 dr_cX17_next_155 (by decide +kernel) (fun _ => ?_) (fun hc => absurd hc (by decide))
                        refine G_iload_n 3 dr_cX17_next_163 rfl ?_
                        refine G_istore_n (L' := [(2, .int g19311), (6, .int 1), (5, .int 1), (4, .int 0), (3, .int g19311), (0, .ref q17962), (1, .int p17963)]) dr_cX17_next_164 (Nat.le_of_ble_eq_true rfl) rfl ?_
                        obtain ⟨z19420, hz19420⟩ : ∃ z : Int32, z = g19311 + Int32.ofInt 1 := ⟨_, rfl⟩
                        have ez19420 : z19420.toInt = g19311.toInt + 1 := gI_inc hz19420 (by decide) bg19311'' (by decide) (by decide)
                        have bz19420 : gB z19420 1 100 := ⟨by omega, by omega⟩
                        refine G_iinc (L' := [(3, .int z19420), (2, .int g19311), (6, .int 1), (5, .int 1), (4, .int 0), (0, .ref q17962), (1, .int p17963)]) z19420 4 dr_cX17_next_165 rfl hz19420.symm (Nat.le_of_ble_eq_true rfl) rfl ?_
                        refine G_goto 40 dr_cX17_next_168 (by decide +kernel) ?_
                        refine G_lv (L' := [(3, .int z19420), (2, .int g19311), (0, .ref q17962), (1, .int p17963)]) [0, 1, 5, 6] rfl ?_
                        exact ih40_19312 z19420 g19311 (gB_w bz19420 (by decide) (by decide)) (gB_w bg19311'' (by decide) (by decide)) (by omega)
                  · have r19421 : 100 ≤ g19311.toInt := gj_nlt hc19372 (show Int32.toInt 100 = 100 by decide)
                    have bg19311'' : gB g19311 100 1999 := ⟨by omega, by omega⟩
                    refine G_iconst 1 dr_cX17_next_74 (by decide +kernel) ?_
                    refine G_goto 79 dr_cX17_next_75 (by decide +kernel) ?_
                    refine G_istore (L' := [(4, .int 1), (3, .int g19311), (2, .int g19312), (0, .ref q17962), (1, .int p17963)]) dr_cX17_next_79 (Nat.le_of_ble_eq_true rfl) rfl ?_
                    refine G_iload_n 2 dr_cX17_next_81 rfl ?_
                    refine G_bipush 100 dr_cX17_next_82 (by decide +kernel) ?_
                    refine G_icmp_lt 91 dr_cX17_next_84 (by decide +kernel) (fun hc19422 => ?_) (fun hc19422 => ?_)
                    · have r19423 : g19312.toInt < 100 := gj_lt hc19422 (show Int32.toInt 100 = 100 by decide)
                      have bg19312'' : gB g19312 0 99 := ⟨by omega, by omega⟩
                      refine G_iconst 0 dr_cX17_next_91 (by decide +kernel) ?_
                      refine G_istore (L' := [(5, .int 0), (4, .int 1), (3, .int g19311), (2, .int g19312), (0, .ref q17962), (1, .int p17963)]) dr_cX17_next_92 (Nat.le_of_ble_eq_true rfl) rfl ?_
                      refine G_iload 1 dr_cX17_next_94 rfl ?_
                      refine G_if_eq 107 dr_cX17_next_96 (by decide +kernel) (fun hc => absurd hc (by decide)) (fun _ => ?_)
                      refine G_iload 0 dr_cX17_next_99 rfl ?_
                      refine G_if_ne 107 dr_cX17_next_101 (by decide +kernel) (fun hc => absurd hc (by decide)) (fun _ => ?_)
                      refine G_goto 165 dr_cX17_next_104 (by decide +kernel) ?_
                      obtain ⟨z19424, hz19424⟩ : ∃ z : Int32, z = g19311 + Int32.ofInt 1 := ⟨_, rfl⟩
                      have ez19424 : z19424.toInt = g19311.toInt + 1 := gI_inc hz19424 (by decide) bg19311'' (by decide) (by decide)
                      have bz19424 : gB z19424 101 2000 := ⟨by omega, by omega⟩
                      refine G_iinc (L' := [(3, .int z19424), (5, .int 0), (4, .int 1), (2, .int g19312), (0, .ref q17962), (1, .int p17963)]) z19424 2 dr_cX17_next_165 rfl hz19424.symm (Nat.le_of_ble_eq_true rfl) rfl ?_
                      refine G_goto 40 dr_cX17_next_168 (by decide +kernel) ?_
                      refine G_lv (L' := [(3, .int z19424), (2, .int g19312), (0, .ref q17962), (1, .int p17963)]) [0, 3, 4, 5] rfl ?_
                      exact ih40_19312 z19424 g19312 (gB_w bz19424 (by decide) (by decide)) (gB_w bg19312'' (by decide) (by decide)) (by omega)
                    · have r19425 : 100 ≤ g19312.toInt := gj_nlt hc19422 (show Int32.toInt 100 = 100 by decide)
                      have bg19312'' : gB g19312 100 1999 := ⟨by omega, by omega⟩
                      refine G_iconst 1 dr_cX17_next_87 (by decide +kernel) ?_
                      refine G_goto 92 dr_cX17_next_88 (by decide +kernel) ?_
                      refine G_istore (L' := [(5, .int 1), (4, .int 1), (3, .int g19311), (2, .int g19312), (0, .ref q17962), (1, .int p17963)]) dr_cX17_next_92 (Nat.le_of_ble_eq_true rfl) rfl ?_
                      refine G_iload 1 dr_cX17_next_94 rfl ?_
                      refine G_if_eq 107 dr_cX17_next_96 (by decide +kernel) (fun hc => absurd hc (by decide)) (fun _ => ?_)
                      refine G_iload 0 dr_cX17_next_99 rfl ?_
                      refine G_if_ne 107 dr_cX17_next_101 (by decide +kernel) (fun _ => ?_) (fun hc => absurd hc (by decide))
                      refine G_aload_n 4 dr_cX17_next_107 rfl ?_
                      refine Gp_get 5 hm19317 he19318 dr_cX17_next_108 (gk_X17 D I) (Nat.le_of_ble_eq_true rfl) wr_7_79 rfl ?_
                      refine G_iload_n 2 dr_cX17_next_111 rfl ?_
                      have hm19426 : (γ 9 5) ∈ P17960 := RS_m hT ht19343 (by decide)
                      obtain ⟨f19428, he19427⟩ := show rk_17 I (F17961 (γ 9 5)) from RS_o hT ht19343
                      refine Gp_iald 0 hm19426 he19427 dr_cX17_next_112 rfl (gB_in bg19311'' (by decide) (by decide)) (G_nam fun z19429 hz19429 => ?_)
                      have bz19429 : gB z19429 (-2147483648) 2147483647 := gB_any z19429
                      refine G_i2l dr_cX17_next_113 (G_namL fun u19430 hu19430 => ?_)
                      refine G_aload_n 4 dr_cX17_next_114 rfl ?_
                      refine Gp_get 16 hm19317 he19318 dr_cX17_next_115 (gk_X17 D I) (Nat.le_of_ble_eq_true rfl) wr_7_90 rfl ?_
                      refine G_iload_n 3 dr_cX17_next_118 rfl ?_
                      have hm19431 : (γ 9 16) ∈ P17960 := RS_m hT ht19348 (by decide)
                      obtain ⟨f19433, he19432⟩ := show rk_19 I (F17961 (γ 9 16)) from RS_o hT ht19348
                      refine Gp_iald 0 hm19431 he19432 dr_cX17_next_119 rfl (gB_in bg19312'' (by decide) (by decide)) (G_nam fun z19434 hz19434 => ?_)
                      have bz19434 : gB z19434 (-2147483648) 2147483647 := gB_any z19434
                      refine G_i2l dr_cX17_next_120 (G_namL fun u19435 hu19435 => ?_)
                      refine G_lmul dr_cX17_next_121 (G_namL fun u19436 hu19436 => ?_)
                      refine G_aload_n 4 dr_cX17_next_122 rfl ?_
                      refine Gp_get 5 hm19317 he19318 dr_cX17_next_123 (gk_X17 D I) (Nat.le_of_ble_eq_true rfl) wr_7_79 rfl ?_
                      refine G_iload_n 3 dr_cX17_next_126 rfl ?_
                      refine Gp_iald 0 hm19426 he19427 dr_cX17_next_127 rfl (gB_in bg19312'' (by decide) (by decide)) (G_nam fun z19437 hz19437 => ?_)
                      have bz19437 : gB z19437 (-2147483648) 2147483647 := gB_any z19437
                      refine G_i2l dr_cX17_next_128 (G_namL fun u19438 hu19438 => ?_)
                      refine G_aload_n 4 dr_cX17_next_129 rfl ?_
                      refine Gp_get 16 hm19317 he19318 dr_cX17_next_130 (gk_X17 D I) (Nat.le_of_ble_eq_true rfl) wr_7_90 rfl ?_
                      refine G_iload_n 2 dr_cX17_next_133 rfl ?_
                      refine Gp_iald 0 hm19431 he19432 dr_cX17_next_134 rfl (gB_in bg19311'' (by decide) (by decide)) (G_nam fun z19439 hz19439 => ?_)
                      have bz19439 : gB z19439 (-2147483648) 2147483647 := gB_any z19439
                      refine G_i2l dr_cX17_next_135 (G_namL fun u19440 hu19440 => ?_)
                      refine G_lmul dr_cX17_next_136 (G_namL fun u19441 hu19441 => ?_)
                      refine G_lcmp dr_cX17_next_137 (G_nam fun z19442 hz19442 => ?_)
                      have bz19442 : gB z19442 (-1) 1 := gB_cmp hz19442
                      refine G_if_ge 145 dr_cX17_next_138 (by decide +kernel) (fun hc19443 => ?_) (fun hc19443 => ?_)
                      · have r19444 : 0 ≤ z19442.toInt := gj_leL hc19443 (show Int32.toInt 0 = 0 by decide)
                        have bz19442' : gB z19442 0 1 := ⟨by omega, by omega⟩
                        refine G_iconst 0 dr_cX17_next_145 (by decide +kernel) ?_
                        refine G_istore (L' := [(6, .int 0), (5, .int 1), (4, .int 1), (3, .int g19311), (2, .int g19312), (0, .ref q17962), (1, .int p17963)]) dr_cX17_next_146 (Nat.le_of_ble_eq_true rfl) rfl ?_
                        refine G_iload 2 dr_cX17_next_148 rfl ?_
                        refine G_if_ne 158 dr_cX17_next_150 (by decide +kernel) (fun _ => ?_) (fun hc => absurd hc (by decide))
                        refine G_iload 0 dr_cX17_next_158 rfl ?_
                        refine G_if_eq 165 dr_cX17_next_160 (by decide +kernel) (fun _ => ?_) (fun hc => absurd hc (by decide))
                        obtain ⟨z19445, hz19445⟩ : ∃ z : Int32, z = g19311 + Int32.ofInt 1 := ⟨_, rfl⟩
                        have ez19445 : z19445.toInt = g19311.toInt + 1 := gI_inc hz19445 (by decide) bg19311'' (by decide) (by decide)
                        have bz19445 : gB z19445 101 2000 := ⟨by omega, by omega⟩
                        refine G_iinc (L' := [(3, .int z19445), (6, .int 0), (5, .int 1), (4, .int 1), (2, .int g19312), (0, .ref q17962), (1, .int p17963)]) z19445 3 dr_cX17_next_165 rfl hz19445.symm (Nat.le_of_ble_eq_true rfl) rfl ?_
                        refine G_goto 40 dr_cX17_next_168 (by decide +kernel) ?_
                        refine G_lv (L' := [(3, .int z19445), (2, .int g19312), (0, .ref q17962), (1, .int p17963)]) [0, 4, 5, 6] rfl ?_
                        exact ih40_19312 z19445 g19312 (gB_w bz19445 (by decide) (by decide)) (gB_w bg19312'' (by decide) (by decide)) (by omega)
                      · have r19446 : z19442.toInt < 0 := gj_nleL hc19443 (show Int32.toInt 0 = 0 by decide)
                        have bz19442' : gB z19442 (-1) (-1) := ⟨by omega, by omega⟩
                        have lhc19443 := gC_cmpS hz19442 (by omega)
                        refine G_iconst 1 dr_cX17_next_141 (by decide +kernel) ?_
                        refine G_goto 146 dr_cX17_next_142 (by decide +kernel) ?_
                        refine G_istore (L' := [(6, .int 1), (5, .int 1), (4, .int 1), (3, .int g19311), (2, .int g19312), (0, .ref q17962), (1, .int p17963)]) dr_cX17_next_146 (Nat.le_of_ble_eq_true rfl) rfl ?_
                        refine G_iload 2 dr_cX17_next_148 rfl ?_
                        refine G_if_ne 158 dr_cX17_next_150 (by decide +kernel) (fun _ => ?_) (fun hc => absurd hc (by decide))
                        refine G_iload 0 dr_cX17_next_158 rfl ?_
                        refine G_if_eq 165 dr_cX17_next_160 (by decide +kernel) (fun hc => absurd hc (by decide)) (fun _ => ?_)
                        refine G_iload_n 3 dr_cX17_next_163 rfl ?_
                        refine G_istore_n (L' := [(2, .int g19311), (6, .int 1), (5, .int 1), (4, .int 1), (3, .int g19311), (0, .ref q17962), (1, .int p17963)]) dr_cX17_next_164 (Nat.le_of_ble_eq_true rfl) rfl ?_
                        obtain ⟨z19447, hz19447⟩ : ∃ z : Int32, z = g19311 + Int32.ofInt 1 := ⟨_, rfl⟩
                        have ez19447 : z19447.toInt = g19311.toInt + 1 := gI_inc hz19447 (by decide) bg19311'' (by decide) (by decide)
                        have bz19447 : gB z19447 101 2000 := ⟨by omega, by omega⟩
                        refine G_iinc (L' := [(3, .int z19447), (2, .int g19311), (6, .int 1), (5, .int 1), (4, .int 1), (0, .ref q17962), (1, .int p17963)]) z19447 4 dr_cX17_next_165 rfl hz19447.symm (Nat.le_of_ble_eq_true rfl) rfl ?_
                        refine G_goto 40 dr_cX17_next_168 (by decide +kernel) ?_
                        refine G_lv (L' := [(3, .int z19447), (2, .int g19311), (0, .ref q17962), (1, .int p17963)]) [0, 1, 5, 6] rfl ?_
                        exact ih40_19312 z19447 g19311 (gB_w bz19447 (by decide) (by decide)) (gB_w bg19311'' (by decide) (by decide)) (by omega)
                · have r19448 : g19312.toInt < 0 := gj_nleL hc19370 (show Int32.toInt 0 = 0 by decide)
                  have bg19312' : gB g19312 (-1) (-1) := ⟨by omega, by omega⟩
                  refine G_iload_n 0 dr_cX17_next_63 rfl ?_
                  refine G_istore_n (L' := [(2, .int g19311), (3, .int g19311), (0, .ref q17962), (1, .int p17963)]) dr_cX17_next_64 (Nat.le_of_ble_eq_true rfl) rfl ?_
                  refine G_goto 165 dr_cX17_next_65 (by decide +kernel) ?_
                  obtain ⟨z19449, hz19449⟩ : ∃ z : Int32, z = g19311 + Int32.ofInt 1 := ⟨_, rfl⟩
                  have ez19449 : z19449.toInt = g19311.toInt + 1 := gI_inc hz19449 (by decide) bg19311' (by decide) (by decide)
                  have bz19449 : gB z19449 1 2000 := ⟨by omega, by omega⟩
                  refine G_iinc (L' := [(3, .int z19449), (2, .int g19311), (0, .ref q17962), (1, .int p17963)]) z19449 1 dr_cX17_next_165 rfl hz19449.symm (Nat.le_of_ble_eq_true rfl) rfl ?_
                  refine G_goto 40 dr_cX17_next_168 (by decide +kernel) ?_
                  exact ih40_19312 z19449 g19311 (gB_w bz19449 (by decide) (by decide)) (gB_w bg19311' (by decide) (by decide)) (by omega)
              · have r19450 : z19367.toInt = 0 := gj_eq hc19368 (show Int32.toInt 0 = 0 by decide)
                have bz19367' : gB z19367 0 0 := ⟨by omega, by omega⟩
                refine G_goto 165 dr_cX17_next_56 (by decide +kernel) ?_
                obtain ⟨z19451, hz19451⟩ : ∃ z : Int32, z = g19311 + Int32.ofInt 1 := ⟨_, rfl⟩
                have ez19451 : z19451.toInt = g19311.toInt + 1 := gI_inc hz19451 (by decide) bg19311' (by decide) (by decide)
                have bz19451 : gB z19451 1 2000 := ⟨by omega, by omega⟩
                refine G_iinc (L' := [(3, .int z19451), (2, .int g19312), (0, .ref q17962), (1, .int p17963)]) z19451 0 dr_cX17_next_165 rfl hz19451.symm (Nat.le_of_ble_eq_true rfl) rfl ?_
                refine G_goto 40 dr_cX17_next_168 (by decide +kernel) ?_
                exact ih40_19312 z19451 g19312 (gB_w bz19451 (by decide) (by decide)) bg19312 (by omega)
        exact hlp40_19312 (((2001 : Int) - 0).toNat + 1) 0 (-1) (gB_w (gBl (show Int32.toInt 0 = 0 by decide)) (by decide) (by decide)) (gB_w (gBl (show Int32.toInt (-1) = (-1) by decide)) (by decide) (by decide)) (Nat.lt_succ_self _)
      · have r19452 : g19167.toInt < 2000 := gj_nleL hc19169 (show Int32.toInt 2000 = 2000 by decide)
        have bg19167' : gB g19167 0 1999 := ⟨by omega, by omega⟩
        refine G_aload_n 1 dr_cX17_next_9 rfl ?_
        have hm19453 : q17962 ∈ P17960 := RS_m hT htq17962 (by decide)
        obtain ⟨q19455, q19456, p19457, p19458, p19459, p19460, p19461, p19462, p19463, p19464, p19465, p19466, p19467, p19468, p19469, p19470, p19471, he19454, hB19498, ht19472, ht19473, ht19474, ht19475, ht19476, ht19477, ht19478, ht19479, ht19480, ht19481, ht19482, ht19483, ht19484, ht19485, ht19486, ht19487, ht19488, ht19489, ht19490, ht19491, ht19492, ht19493, ht19494, ht19495, hB19499⟩ := show rk_10 γ (F17961 q17962) from RS_o hT htq17962
        refine Gp_get 18 hm19453 he19454 dr_cX17_next_10 (gk_X17 D I) (Nat.le_of_ble_eq_true rfl) wr_7_92 rfl ?_
        refine G_iload_n 0 dr_cX17_next_13 rfl ?_
        have hm19500 : (γ 9 18) ∈ P17960 := RS_m hT ht19486 (by decide)
        obtain ⟨f19502, he19501, bf19502⟩ := show rk_15 I (F17961 (γ 9 18)) from RS_o hT ht19486
        refine Gp_zald 3 hm19500 he19501 dr_cX17_next_14 rfl (gB_in bg19167' (by decide) (by decide)) (G_nam fun z19503 hz19503 => ?_)
        have bz19503 : gB z19503 0 1 := by rw [hz19503]; exact bf19502 _
        refine G_if_eq 30 dr_cX17_next_15 (by decide +kernel) (fun hc19504 => ?_) (fun hc19504 => ?_)
        · have r19505 : z19503.toInt = 0 := gj_eq hc19504 (show Int32.toInt 0 = 0 by decide)
          have bz19503' : gB z19503 0 0 := ⟨by omega, by omega⟩
          obtain ⟨z19506, hz19506⟩ : ∃ z : Int32, z = g19167 + Int32.ofInt 1 := ⟨_, rfl⟩
          have ez19506 : z19506.toInt = g19167.toInt + 1 := gI_inc hz19506 (by decide) bg19167' (by decide) (by decide)
          have bz19506 : gB z19506 1 2000 := ⟨by omega, by omega⟩
          refine G_iinc (L' := [(2, .int z19506), (0, .ref q17962), (1, .int p17963)]) z19506 0 dr_cX17_next_30 rfl hz19506.symm (Nat.le_of_ble_eq_true rfl) rfl ?_
          refine G_goto 2 dr_cX17_next_33 (by decide +kernel) ?_
          exact ih2_19167 z19506 (gB_w bz19506 (by decide) (by decide)) (by omega)
        · have r19507 : z19503.toInt ≠ 0 := gj_neq hc19504 (show Int32.toInt 0 = 0 by decide)
          have bz19503' : gB z19503 1 1 := ⟨by omega, by omega⟩
          refine G_aload_n 1 dr_cX17_next_18 rfl ?_
          refine Gp_get 16 hm19453 he19454 dr_cX17_next_19 (gk_X17 D I) (Nat.le_of_ble_eq_true rfl) wr_7_90 rfl ?_
          refine G_iload_n 0 dr_cX17_next_22 rfl ?_
          have hm19508 : (γ 9 16) ∈ P17960 := RS_m hT ht19484 (by decide)
          obtain ⟨f19510, he19509⟩ := show rk_19 I (F17961 (γ 9 16)) from RS_o hT ht19484
          refine Gp_iald 0 hm19508 he19509 dr_cX17_next_23 rfl (gB_in bg19167' (by decide) (by decide)) (G_nam fun z19511 hz19511 => ?_)
          have bz19511 : gB z19511 (-2147483648) 2147483647 := gB_any z19511
          refine G_iload_n 2 dr_cX17_next_24 rfl ?_
          refine G_icmp_ge 30 dr_cX17_next_25 (by decide +kernel) (fun hc19512 => ?_) (fun hc19512 => ?_)
          · have r19513 : p17963.toInt ≤ z19511.toInt := gC_le hc19512
            obtain ⟨z19514, hz19514⟩ : ∃ z : Int32, z = g19167 + Int32.ofInt 1 := ⟨_, rfl⟩
            have ez19514 : z19514.toInt = g19167.toInt + 1 := gI_inc hz19514 (by decide) bg19167' (by decide) (by decide)
            have bz19514 : gB z19514 1 2000 := ⟨by omega, by omega⟩
            refine G_iinc (L' := [(2, .int z19514), (0, .ref q17962), (1, .int p17963)]) z19514 0 dr_cX17_next_30 rfl hz19514.symm (Nat.le_of_ble_eq_true rfl) rfl ?_
            refine G_goto 2 dr_cX17_next_33 (by decide +kernel) ?_
            exact ih2_19167 z19514 (gB_w bz19514 (by decide) (by decide)) (by omega)
          · have r19515 : z19511.toInt < p17963.toInt := gC_nle hc19512
            have bz19511' : gB z19511 (-2147483648) 2147483646 := ⟨by omega, by omega⟩
            have bp17963' : gB p17963 (-2147483647) 2147483647 := ⟨by omega, by omega⟩
            refine G_iload_n 0 dr_cX17_next_28 rfl ?_
            exact G_iretA dr_cX17_next_29 rfl (Nat.le_of_ble_eq_true rfl) (Nat.le_of_ble_eq_true rfl) ⟨g19167, rfl, rfl, (Nat.le_of_ble_eq_true rfl), (Nat.le_of_ble_eq_true rfl), (gB_w bg19167' (by decide) (by decide))⟩
  exact hlp2_19167 (((2001 : Int) - 0).toNat + 1) 0 (gB_w (gBl (show Int32.toInt 0 = 0 by decide)) (by decide) (by decide)) (Nat.lt_succ_self _)
