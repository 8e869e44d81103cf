theorem dr_cX17_word__0 : decode cX17_word_ 0 = .ok (.aload_n 0, 1) := by decide +kernel
theorem dr_cX17_word__1 : decode cX17_word_ 1 = .ok (.iconst 0, 1) := by decide +kernel
theorem dr_cX17_word__2 : decode cX17_word_ 2 = .ok (.putfield 380, 3) := by decide +kernel
theorem dr_cX17_word__5 : decode cX17_word_ 5 = .ok (.iload_n 1, 1) := by decide +kernel
theorem dr_cX17_word__6 : decode cX17_word_ 6 = .ok (.ifCond .lt 11, 3) := by decide +kernel
theorem dr_cX17_word__17 : decode cX17_word_ 17 = .ok (.aload_n 0, 1) := by decide +kernel
theorem dr_cX17_word__18 : decode cX17_word_ 18 = .ok (.iconst 1, 1) := by decide +kernel
theorem dr_cX17_word__19 : decode cX17_word_ 19 = .ok (.invokevirtual 385, 3) := by decide +kernel
theorem dr_cX17_word__22 : decode cX17_word_ 22 = .ok (.i2l, 1) := by decide +kernel
theorem dr_cX17_word__23 : decode cX17_word_ 23 = .ok (.lreturn, 1) := by decide +kernel
theorem dr_cX17_word__9 : decode cX17_word_ 9 = .ok (.iload_n 1, 1) := by decide +kernel
theorem dr_cX17_word__10 : decode cX17_word_ 10 = .ok (.aload_n 0, 1) := by decide +kernel
theorem dr_cX17_word__11 : decode cX17_word_ 11 = .ok (.getfield 426, 3) := by decide +kernel
theorem dr_cX17_word__14 : decode cX17_word_ 14 = .ok (.if_icmp .lt 10, 3) := by decide +kernel
theorem dr_cX17_word__24 : decode cX17_word_ 24 = .ok (.lconst 0, 1) := by decide +kernel
theorem dr_cX17_word__25 : decode cX17_word_ 25 = .ok (.lstore_n 2, 1) := by decide +kernel
theorem dr_cX17_word__26 : decode cX17_word_ 26 = .ok (.iconst 0, 1) := by decide +kernel
theorem dr_cX17_word__27 : decode cX17_word_ 27 = .ok (.istore 4, 2) := by decide +kernel
theorem dr_cX17_word__29 : decode cX17_word_ 29 = .ok (.iload 4, 2) := by decide +kernel
theorem dr_cX17_word__31 : decode cX17_word_ 31 = .ok (.bipush 8, 2) := by decide +kernel
theorem dr_cX17_word__33 : decode cX17_word_ 33 = .ok (.if_icmp .ge 44, 3) := by decide +kernel
theorem dr_cX17_word__77 : decode cX17_word_ 77 = .ok (.lload_n 2, 1) := by decide +kernel
theorem dr_cX17_word__78 : decode cX17_word_ 78 = .ok (.lreturn, 1) := by decide +kernel
theorem dr_cX17_word__36 : decode cX17_word_ 36 = .ok (.lload_n 2, 1) := by decide +kernel
theorem dr_cX17_word__37 : decode cX17_word_ 37 = .ok (.bipush 8, 2) := by decide +kernel
theorem dr_cX17_word__39 : decode cX17_word_ 39 = .ok (.lshl, 1) := by decide +kernel
theorem dr_cX17_word__40 : decode cX17_word_ 40 = .ok (.iload_n 1, 1) := by decide +kernel
theorem dr_cX17_word__41 : decode cX17_word_ 41 = .ok (.iload 4, 2) := by decide +kernel
theorem dr_cX17_word__43 : decode cX17_word_ 43 = .ok (.iadd, 1) := by decide +kernel
theorem dr_cX17_word__44 : decode cX17_word_ 44 = .ok (.aload_n 0, 1) := by decide +kernel
theorem dr_cX17_word__45 : decode cX17_word_ 45 = .ok (.getfield 426, 3) := by decide +kernel
theorem dr_cX17_word__48 : decode cX17_word_ 48 = .ok (.if_icmp .ge 19, 3) := by decide +kernel
theorem dr_cX17_word__67 : decode cX17_word_ 67 = .ok (.iconst 0, 1) := by decide +kernel
theorem dr_cX17_word__68 : decode cX17_word_ 68 = .ok (.i2l, 1) := by decide +kernel
theorem dr_cX17_word__69 : decode cX17_word_ 69 = .ok (.lor, 1) := by decide +kernel
theorem dr_cX17_word__70 : decode cX17_word_ 70 = .ok (.lstore_n 2, 1) := by decide +kernel
theorem dr_cX17_word__71 : decode cX17_word_ 71 = .ok (.iinc 4 1, 3) := by decide +kernel
theorem dr_cX17_word__74 : decode cX17_word_ 74 = .ok (.goto (-45), 3) := by decide +kernel
theorem dr_cX17_word__51 : decode cX17_word_ 51 = .ok (.aload_n 0, 1) := by decide +kernel
theorem dr_cX17_word__52 : decode cX17_word_ 52 = .ok (.getfield 378, 3) := by decide +kernel
theorem wr_7_109 : (Jvm.Cond.fieldLink "SpillForgeModel" (378 : Nat) "SpillForgeModel" "result" "[B") ∈ gw := gw_7 109 rfl rfl
theorem dr_cX17_word__55 : decode cX17_word_ 55 = .ok (.iload_n 1, 1) := by decide +kernel
theorem dr_cX17_word__56 : decode cX17_word_ 56 = .ok (.iload 4, 2) := by decide +kernel
theorem dr_cX17_word__58 : decode cX17_word_ 58 = .ok (.iadd, 1) := by decide +kernel
theorem dr_cX17_word__59 : decode cX17_word_ 59 = .ok (.baload, 1) := by decide +kernel
theorem dr_cX17_word__60 : decode cX17_word_ 60 = .ok (.sipush 255, 3) := by decide +kernel
theorem dr_cX17_word__63 : decode cX17_word_ 63 = .ok (.iand, 1) := by decide +kernel
theorem dr_cX17_word__64 : decode cX17_word_ 64 = .ok (.goto 4, 3) := by decide +kernel
theorem dr_cX17_give_0 : decode cX17_give 0 = .ok (.aload_n 0, 1) := by decide +kernel
theorem dr_cX17_give_1 : decode cX17_give 1 = .ok (.iconst 0, 1) := by decide +kernel
theorem dr_cX17_give_2 : decode cX17_give 2 = .ok (.putfield 380, 3) := by decide +kernel
theorem dr_cX17_give_5 : decode cX17_give 5 = .ok (.iload_n 1, 1) := by decide +kernel
theorem dr_cX17_give_6 : decode cX17_give 6 = .ok (.iconst 1, 1) := by decide +kernel
theorem dr_cX17_give_7 : decode cX17_give 7 = .ok (.if_icmp .lt 9, 3) := by decide +kernel
theorem dr_cX17_give_16 : decode cX17_give 16 = .ok (.aload_n 0, 1) := by decide +kernel
theorem dr_cX17_give_17 : decode cX17_give 17 = .ok (.iconst 1, 1) := by decide +kernel
theorem dr_cX17_give_18 : decode cX17_give 18 = .ok (.invokevirtual 385, 3) := by decide +kernel
theorem dr_cX17_give_21 : decode cX17_give 21 = .ok (.ireturn, 1) := by decide +kernel
theorem dr_cX17_give_10 : decode cX17_give 10 = .ok (.iload_n 1, 1) := by decide +kernel
theorem dr_cX17_give_11 : decode cX17_give 11 = .ok (.bipush 32, 2) := by decide +kernel
theorem dr_cX17_give_13 : decode cX17_give 13 = .ok (.if_icmp .le 9, 3) := by decide +kernel
theorem dr_cX17_give_22 : decode cX17_give 22 = .ok (.aload_n 0, 1) := by decide +kernel
theorem dr_cX17_give_23 : decode cX17_give 23 = .ok (.getfield 414, 3) := by decide +kernel
theorem dr_cX17_give_26 : decode cX17_give 26 = .ok (.ifCond .ne 9, 3) := by decide +kernel
theorem dr_cX17_give_35 : decode cX17_give 35 = .ok (.aload_n 0, 1) := by decide +kernel
theorem dr_cX17_give_36 : decode cX17_give 36 = .ok (.getfield 365, 3) := by decide +kernel
theorem dr_cX17_give_39 : decode cX17_give 39 = .ok (.aload_n 0, 1) := by decide +kernel
theorem dr_cX17_give_40 : decode cX17_give 40 = .ok (.getfield 361, 3) := by decide +kernel
theorem dr_cX17_give_43 : decode cX17_give 43 = .ok (.invokevirtual 419, 3) := by decide +kernel
theorem wr_10_132 : (Jvm.Cond.methodLink "SpillForgeModel" (419 : Nat) ({ cls := "SpillForgeModel$Code", name := "copy", desc := "(LSpillForgeModel$Code;)V" } : Jvm.MethodName)) ∈ gw := gw_10 132 rfl rfl
theorem wr_10_135 : (Jvm.Cond.code ({ cls := "SpillForgeModel$Code", name := "copy", desc := "(LSpillForgeModel$Code;)V" } : Jvm.MethodName) prog_16_method_9_code (7 : Nat) (Option.none : Option Jvm.ClassFile.FieldType)) ∈ gw := gw_10 135 rfl rfl
theorem wr_10_133 : (Jvm.Cond.instanceMethod ({ cls := "SpillForgeModel$Code", name := "copy", desc := "(LSpillForgeModel$Code;)V" } : Jvm.MethodName)) ∈ gw := gw_10 133 rfl rfl
theorem wr_10_134 : (Jvm.Cond.selects "SpillForgeModel$Code" ({ cls := "SpillForgeModel$Code", name := "copy", desc := "(LSpillForgeModel$Code;)V" } : Jvm.MethodName) ({ cls := "SpillForgeModel$Code", name := "copy", desc := "(LSpillForgeModel$Code;)V" } : Jvm.MethodName)) ∈ gw := gw_10 134 rfl rfl
theorem dr_cX17_give_46 : decode cX17_give 46 = .ok (.aload_n 0, 1) := by decide +kernel
theorem dr_cX17_give_47 : decode cX17_give 47 = .ok (.aload_n 0, 1) := by decide +kernel
theorem dr_cX17_give_48 : decode cX17_give 48 = .ok (.getfield 365, 3) := by decide +kernel
theorem dr_cX17_give_51 : decode cX17_give 51 = .ok (.iload_n 1, 1) := by decide +kernel
theorem dr_cX17_give_52 : decode cX17_give 52 = .ok (.invokevirtual 422, 3) := by decide +kernel
theorem wr_10_148 : (Jvm.Cond.methodLink "SpillForgeModel" (422 : Nat) ({ cls := "SpillForgeModel", name := "giveAll", desc := "(LSpillForgeModel$Code;I)I" } : Jvm.MethodName)) ∈ gw := gw_10 148 rfl rfl
theorem wr_10_151 : (Jvm.Cond.code ({ cls := "SpillForgeModel", name := "giveAll", desc := "(LSpillForgeModel$Code;I)I" } : Jvm.MethodName) prog_14_method_24_code (8 : Nat) (Option.some Jvm.ClassFile.FieldType.int)) ∈ gw := gw_10 151 rfl rfl
theorem wr_10_150 : (Jvm.Cond.instanceMethod ({ cls := "SpillForgeModel", name := "giveAll", desc := "(LSpillForgeModel$Code;I)I" } : Jvm.MethodName)) ∈ gw := gw_10 150 rfl rfl
theorem wr_p_92 : Cond.selects "SpillForgeModel" ⟨"SpillForgeModel", "giveAll", "(LSpillForgeModel$Code;I)I"⟩ ⟨"SpillForgeModel", "giveAll", "(LSpillForgeModel$Code;I)I"⟩ ∈ gw := gw_p _ 92 rfl rfl rfl
theorem dr_cX17_give_55 : decode cX17_give 55 = .ok (.istore_n 2, 1) := by decide +kernel
theorem dr_cX17_give_56 : decode cX17_give 56 = .ok (.aload_n 0, 1) := by decide +kernel
theorem dr_cX17_give_57 : decode cX17_give 57 = .ok (.iload_n 2, 1) := by decide +kernel
theorem dr_cX17_give_58 : decode cX17_give 58 = .ok (.ifCond .le 7, 3) := by decide +kernel
theorem dr_cX17_give_65 : decode cX17_give 65 = .ok (.iconst 0, 1) := by decide +kernel
theorem dr_cX17_give_66 : decode cX17_give 66 = .ok (.putfield 416, 3) := by decide +kernel
theorem dr_cX17_give_69 : decode cX17_give 69 = .ok (.iload_n 2, 1) := by decide +kernel
theorem dr_cX17_give_70 : decode cX17_give 70 = .ok (.ireturn, 1) := by decide +kernel
theorem dr_cX17_give_61 : decode cX17_give 61 = .ok (.iconst 1, 1) := by decide +kernel
theorem dr_cX17_give_62 : decode cX17_give 62 = .ok (.goto 4, 3) := by decide +kernel
theorem dr_cX17_give_29 : decode cX17_give 29 = .ok (.aload_n 0, 1) := by decide +kernel
theorem dr_cX17_give_30 : decode cX17_give 30 = .ok (.iconst 2, 1) := by decide +kernel
theorem dr_cX17_give_31 : decode cX17_give 31 = .ok (.invokevirtual 385, 3) := by decide +kernel
theorem dr_cX17_give_34 : decode cX17_give 34 = .ok (.ireturn, 1) := by decide +kernel
theorem dr_cX17_look_0 : decode cX17_look 0 = .ok (.aload_n 0, 1) := by decide +kernel
theorem dr_cX17_look_1 : decode cX17_look 1 = .ok (.iconst 0, 1) := by decide +kernel
theorem dr_cX17_look_2 : decode cX17_look 2 = .ok (.putfield 380, 3) := by decide +kernel
theorem dr_cX17_look_5 : decode cX17_look 5 = .ok (.aload_n 0, 1) := by decide +kernel
theorem dr_cX17_look_6 : decode cX17_look 6 = .ok (.getfield 414, 3) := by decide +kernel
theorem dr_cX17_look_9 : decode cX17_look 9 = .ok (.ifCond .ne 9, 3) := by decide +kernel
theorem dr_cX17_look_18 : decode cX17_look 18 = .ok (.iload_n 2, 1) := by decide +kernel
theorem dr_cX17_look_19 : decode cX17_look 19 = .ok (.ifCond .lt 8, 3) := by decide +kernel
theorem dr_cX17_look_27 : decode cX17_look 27 = .ok (.aload_n 0, 1) := by decide +kernel
theorem dr_cX17_look_28 : decode cX17_look 28 = .ok (.iconst 2, 1) := by decide +kernel
theorem dr_cX17_look_29 : decode cX17_look 29 = .ok (.invokevirtual 385, 3) := by decide +kernel
theorem dr_cX17_look_32 : decode cX17_look 32 = .ok (.ireturn, 1) := by decide +kernel
theorem dr_cX17_look_22 : decode cX17_look 22 = .ok (.iload_n 2, 1) := by decide +kernel
theorem dr_cX17_look_23 : decode cX17_look 23 = .ok (.iconst 3, 1) := by decide +kernel
theorem dr_cX17_look_24 : decode cX17_look 24 = .ok (.if_icmp .le 9, 3) := by decide +kernel
theorem dr_cX17_look_33 : decode cX17_look 33 = .ok (.iload_n 2, 1) := by decide +kernel
theorem dr_cX17_look_34 : decode cX17_look 34 = .ok (.iconst 1, 1) := by decide +kernel
theorem dr_cX17_look_35 : decode cX17_look 35 = .ok (.if_icmp .le 65, 3) := by decide +kernel
theorem dr_cX17_look_100 : decode cX17_look 100 = .ok (.aload_n 0, 1) := by decide +kernel
theorem dr_cX17_look_101 : decode cX17_look 101 = .ok (.aload_n 0, 1) := by decide +kernel
theorem dr_cX17_look_102 : decode cX17_look 102 = .ok (.getfield 361, 3) := by decide +kernel
theorem dr_cX17_look_105 : decode cX17_look 105 = .ok (.iconst 0, 1) := by decide +kernel
theorem dr_cX17_look_106 : decode cX17_look 106 = .ok (.invokevirtual 243, 3) := by decide +kernel
theorem dr_cX17_look_109 : decode cX17_look 109 = .ok (.iload_n 1, 1) := by decide +kernel
theorem dr_cX17_look_110 : decode cX17_look 110 = .ok (.ifCond .lt 19, 3) := by decide +kernel
theorem dr_cX17_look_129 : decode cX17_look 129 = .ok (.aload_n 0, 1) := by decide +kernel
theorem dr_cX17_look_130 : decode cX17_look 130 = .ok (.iconst 3, 1) := by decide +kernel
theorem dr_cX17_look_131 : decode cX17_look 131 = .ok (.invokevirtual 385, 3) := by decide +kernel
theorem dr_cX17_look_134 : decode cX17_look 134 = .ok (.ireturn, 1) := by decide +kernel
theorem dr_cX17_look_113 : decode cX17_look 113 = .ok (.iload_n 1, 1) := by decide +kernel
theorem dr_cX17_look_114 : decode cX17_look 114 = .ok (.sipush 2000, 3) := by decide +kernel
theorem dr_cX17_look_117 : decode cX17_look 117 = .ok (.if_icmp .ge 12, 3) := by decide +kernel
theorem dr_cX17_look_120 : decode cX17_look 120 = .ok (.aload_n 0, 1) := by decide +kernel
theorem dr_cX17_look_121 : decode cX17_look 121 = .ok (.getfield 131, 3) := by decide +kernel
theorem dr_cX17_look_124 : decode cX17_look 124 = .ok (.iload_n 1, 1) := by decide +kernel
theorem dr_cX17_look_125 : decode cX17_look 125 = .ok (.baload, 1) := by decide +kernel
theorem dr_cX17_look_126 : decode cX17_look 126 = .ok (.ifCond .ne 9, 3) := by decide +kernel
theorem dr_cX17_look_135 : decode cX17_look 135 = .ok (.aload_n 0, 1) := by decide +kernel
theorem dr_cX17_look_136 : decode cX17_look 136 = .ok (.getfield 368, 3) := by decide +kernel
theorem wr_7_82 : (Jvm.Cond.fieldLink "SpillForgeModel" (368 : Nat) "SpillForgeModel" "spare" "LSpillForgeModel$Code;") ∈ gw := gw_7 82 rfl rfl
theorem dr_cX17_look_139 : decode cX17_look 139 = .ok (.aload_n 0, 1) := by decide +kernel
theorem dr_cX17_look_140 : decode cX17_look 140 = .ok (.getfield 361, 3) := by decide +kernel
theorem dr_cX17_look_143 : decode cX17_look 143 = .ok (.invokevirtual 419, 3) := by decide +kernel
theorem dr_cX17_look_146 : decode cX17_look 146 = .ok (.aload_n 0, 1) := by decide +kernel
theorem dr_cX17_look_147 : decode cX17_look 147 = .ok (.aload_n 0, 1) := by decide +kernel
theorem dr_cX17_look_148 : decode cX17_look 148 = .ok (.getfield 368, 3) := by decide +kernel
theorem dr_cX17_look_151 : decode cX17_look 151 = .ok (.invokevirtual 240, 3) := by decide +kernel
theorem dr_cX17_look_154 : decode cX17_look 154 = .ok (.aload_n 0, 1) := by decide +kernel
theorem dr_cX17_look_155 : decode cX17_look 155 = .ok (.aload_n 0, 1) := by decide +kernel
theorem dr_cX17_look_156 : decode cX17_look 156 = .ok (.getfield 368, 3) := by decide +kernel
theorem dr_cX17_look_159 : decode cX17_look 159 = .ok (.iconst 0, 1) := by decide +kernel
theorem dr_cX17_look_160 : decode cX17_look 160 = .ok (.invokevirtual 243, 3) := by decide +kernel
theorem dr_cX17_look_163 : decode cX17_look 163 = .ok (.aload_n 0, 1) := by decide +kernel
theorem dr_cX17_look_164 : decode cX17_look 164 = .ok (.aload_n 0, 1) := by decide +kernel
theorem dr_cX17_look_165 : decode cX17_look 165 = .ok (.getfield 368, 3) := by decide +kernel
theorem dr_cX17_look_168 : decode cX17_look 168 = .ok (.invokevirtual 250, 3) := by decide +kernel
theorem dr_cX17_look_171 : decode cX17_look 171 = .ok (.iload_n 2, 1) := by decide +kernel
theorem dr_cX17_look_172 : decode cX17_look 172 = .ok (.ifCond .ne 12, 3) := by decide +kernel
theorem dr_cX17_look_184 : decode cX17_look 184 = .ok (.aload_n 0, 1) := by decide +kernel
theorem dr_cX17_look_185 : decode cX17_look 185 = .ok (.getfield 135, 3) := by decide +kernel
theorem dr_cX17_look_188 : decode cX17_look 188 = .ok (.iload_n 1, 1) := by decide +kernel
theorem dr_cX17_look_189 : decode cX17_look 189 = .ok (.aaload, 1) := by decide +kernel
theorem dr_cX17_look_190 : decode cX17_look 190 = .ok (.invokestatic 202, 3) := by decide +kernel
theorem dr_cX17_look_193 : decode cX17_look 193 = .ok (.ireturn, 1) := by decide +kernel
theorem dr_cX17_look_175 : decode cX17_look 175 = .ok (.aload_n 0, 1) := by decide +kernel
theorem dr_cX17_look_176 : decode cX17_look 176 = .ok (.getfield 174, 3) := by decide +kernel
theorem dr_cX17_look_179 : decode cX17_look 179 = .ok (.iload_n 1, 1) := by decide +kernel
theorem dr_cX17_look_180 : decode cX17_look 180 = .ok (.iaload, 1) := by decide +kernel
theorem dr_cX17_look_181 : decode cX17_look 181 = .ok (.goto 12, 3) := by decide +kernel
theorem dr_cX17_look_38 : decode cX17_look 38 = .ok (.iload_n 1, 1) := by decide +kernel
theorem dr_cX17_look_39 : decode cX17_look 39 = .ok (.ifCond .lt 14, 3) := by decide +kernel
theorem dr_cX17_look_53 : decode cX17_look 53 = .ok (.aload_n 0, 1) := by decide +kernel
theorem dr_cX17_look_54 : decode cX17_look 54 = .ok (.iconst 3, 1) := by decide +kernel
theorem dr_cX17_look_55 : decode cX17_look 55 = .ok (.invokevirtual 385, 3) := by decide +kernel
theorem dr_cX17_look_58 : decode cX17_look 58 = .ok (.ireturn, 1) := by decide +kernel
theorem dr_cX17_look_42 : decode cX17_look 42 = .ok (.iload_n 1, 1) := by decide +kernel
theorem dr_cX17_look_43 : decode cX17_look 43 = .ok (.aload_n 0, 1) := by decide +kernel
theorem dr_cX17_look_44 : decode cX17_look 44 = .ok (.getfield 361, 3) := by decide +kernel
theorem dr_cX17_look_47 : decode cX17_look 47 = .ok (.invokevirtual 96, 3) := by decide +kernel
theorem dr_cX17_look_50 : decode cX17_look 50 = .ok (.if_icmp .lt 9, 3) := by decide +kernel
theorem dr_cX17_look_59 : decode cX17_look 59 = .ok (.aload_n 0, 1) := by decide +kernel
theorem dr_cX17_look_60 : decode cX17_look 60 = .ok (.aload_n 0, 1) := by decide +kernel
theorem dr_cX17_look_61 : decode cX17_look 61 = .ok (.getfield 361, 3) := by decide +kernel
theorem dr_cX17_look_64 : decode cX17_look 64 = .ok (.iconst 0, 1) := by decide +kernel
theorem dr_cX17_look_65 : decode cX17_look 65 = .ok (.invokevirtual 127, 3) := by decide +kernel
theorem dr_cX17_look_68 : decode cX17_look 68 = .ok (.aload_n 0, 1) := by decide +kernel
theorem dr_cX17_look_69 : decode cX17_look 69 = .ok (.aload_n 0, 1) := by decide +kernel
theorem dr_cX17_look_70 : decode cX17_look 70 = .ok (.getfield 361, 3) := by decide +kernel
theorem dr_cX17_look_73 : decode cX17_look 73 = .ok (.invokevirtual 170, 3) := by decide +kernel
theorem dr_cX17_look_76 : decode cX17_look 76 = .ok (.iload_n 2, 1) := by decide +kernel
theorem dr_cX17_look_77 : decode cX17_look 77 = .ok (.iconst 2, 1) := by decide +kernel
theorem dr_cX17_look_78 : decode cX17_look 78 = .ok (.if_icmp .ne 15, 3) := by decide +kernel
theorem dr_cX17_look_93 : decode cX17_look 93 = .ok (.aload_n 0, 1) := by decide +kernel
theorem dr_cX17_look_94 : decode cX17_look 94 = .ok (.getfield 152, 3) := by decide +kernel
theorem dr_cX17_look_97 : decode cX17_look 97 = .ok (.iload_n 1, 1) := by decide +kernel
theorem dr_cX17_look_98 : decode cX17_look 98 = .ok (.iaload, 1) := by decide +kernel
theorem dr_cX17_look_99 : decode cX17_look 99 = .ok (.ireturn, 1) := by decide +kernel
theorem dr_cX17_look_81 : decode cX17_look 81 = .ok (.aload_n 0, 1) := by decide +kernel
theorem dr_cX17_look_82 : decode cX17_look 82 = .ok (.getfield 88, 3) := by decide +kernel
theorem dr_cX17_look_85 : decode cX17_look 85 = .ok (.iload_n 1, 1) := by decide +kernel
theorem dr_cX17_look_86 : decode cX17_look 86 = .ok (.aaload, 1) := by decide +kernel
theorem dr_cX17_look_87 : decode cX17_look 87 = .ok (.invokestatic 202, 3) := by decide +kernel
theorem dr_cX17_look_90 : decode cX17_look 90 = .ok (.goto 9, 3) := by decide +kernel
theorem dr_cX17_look_12 : decode cX17_look 12 = .ok (.aload_n 0, 1) := by decide +kernel
theorem dr_cX17_look_13 : decode cX17_look 13 = .ok (.iconst 1, 1) := by decide +kernel
theorem dr_cX17_look_14 : decode cX17_look 14 = .ok (.invokevirtual 385, 3) := by decide +kernel
theorem dr_cX17_look_17 : decode cX17_look 17 = .ok (.ireturn, 1) := by decide +kernel
abbrev ky_635085_SpillForgeModel_word : gKey := (cX17_word_, 5, "SpillForgeModel", (some FieldType.long), [], "word", fun _ _ => True)
def pt_635085_SpillForgeModel_word (D : va_G) (I : FieldType → ClassId) (γ el : Nat → Nat → Nat) (P635081 : List Nat) (F635082 : Nat → va_E) (q635083 : Nat) (p635084 : Int32) : Option Value → va_W → Nat → Nat → Prop := fun r w dc ds => ∃ (F635439 : Nat → va_E) (ol635438 : Int64), r = some (.long ol635438) ∧ w = va_pl P635081 F635439 ∧ RS D I P635081 F635439 γ el ∧ rStr γ [] F635082 F635439 ∧ dc ≤ 0 ∧ ds ≤ 0 ∧ (fI (F635439 q635083) 9).toInt = (fI (F635082 q635083) 9).toInt ∧ (fI (F635439 q635083) 10).toInt = (fI (F635082 q635083) 10).toInt ∧ (fI (F635439 q635083) 32).toInt = (fI (F635082 q635083) 32).toInt
set_option maxRecDepth 100000 in
set_option maxHeartbeats 4000000 in
theorem ct_635085_SpillForgeModel_word (l : Launch) (hl0 : l.stackTraces = false) (D : va_G) (I : FieldType → ClassId) (γ el : Nat → Nat → Nat) (P635081 : List Nat) (F635082 : Nat → va_E) (q635083 : Nat) (p635084 : Int32) (hT : RS D I P635081 F635082 γ el) (htq635083 : rKd γ q635083 10) : CtA (gV D I) l yX17_word_ cX17_word_ 5 (some FieldType.long) 1 21 0 0 [.ref q635083, .int p635084] (va_pl P635081 F635082) (pt_635085_SpillForgeModel_word D I γ el P635081 F635082 q635083 p635084) gNA := by
  refine CtA_of hl0 (by decide) (Nat.le_of_ble_eq_true rfl) ?_
  have bp635084 := gB_any p635084
  have hm635086 : q635083 ∈ P635081 := RS_m hT htq635083 (by decide)
  refine rk10_e (show rk_10 γ (F635082 q635083) from RS_o hT htq635083) (fun q635088 q635089 p635090 p635091 p635092 p635093 p635094 p635095 p635096 p635097 p635098 p635099 p635100 p635101 p635102 p635103 p635104 he635087 hB635131 ht635105 ht635106 ht635107 ht635108 ht635109 ht635110 ht635111 ht635112 ht635113 ht635114 ht635115 ht635116 ht635117 ht635118 ht635119 ht635120 ht635121 ht635122 ht635123 ht635124 ht635125 ht635126 ht635127 ht635128 hB635132 => ?_)
  have ac635133 : (fI (F635082 q635083) 9).toInt = p635090.toInt := by rw [he635087]; rfl
  have bp635090 : gB p635090 0 1 := (hB635131.1)
  have ac635134 : (fI (F635082 q635083) 10).toInt = p635091.toInt := by rw [he635087]; rfl
  have bp635091 : gB p635091 0 1 := (hB635131.2.1)
  have ac635135 : (fI (F635082 q635083) 32).toInt = p635102.toInt := by rw [he635087]; rfl
  have bp635102 : gB p635102 0 8192 := (hB635131.2.2.2.2.2.2.2.1)
  have fq635136 : γ 6 (γ 1 (γ 9 6)) = γ 6 0 := by rw [show γ 1 (γ 9 6) = 0 from ht635126]
  have fq635137 : γ 6 (γ 1 (γ 9 7)) = γ 6 1 := by rw [show γ 1 (γ 9 7) = 1 from ht635127]
  have fq635138 : γ 6 (γ 1 (γ 9 8)) = γ 6 2 := by rw [show γ 1 (γ 9 8) = 2 from ht635128]
  have r635139 : p635104.toInt ≤ γ 12 q635089 := by have z := hB635132; unfold rM2 at z; exact z.2.2
  refine G_aload_n 0 dr_cX17_word__0 rfl ?_
  refine G_iconst 0 dr_cX17_word__1 (by decide +kernel) ?_
  refine Gp_put 30 hm635086 he635087 dr_cX17_word__2 (gk_X17 D I) (Nat.le_of_ble_eq_true rfl) wr_7_104 rfl rfl rfl (Nat.le_of_ble_eq_true rfl) (fun F635140 e635141 n635142 => ?_)
  have he635143 : F635140 q635083 = .inr (22, [.ref (γ 9 0), .ref (γ 9 1), .ref (γ 9 2), .ref (γ 9 3), .ref (γ 9 4), .ref (γ 9 5), .ref (γ 9 6), .ref (γ 9 7), .ref (γ 9 8), .int p635090, .int p635091, .int p635092, .int p635093, .int p635094, .int p635095, .ref (γ 9 15), .ref (γ 9 16), .ref (γ 9 17), .ref (γ 9 18), .ref (γ 9 19), .ref (γ 9 20), .ref (γ 9 21), .ref (γ 9 22), .int p635096, .int p635097, .int p635098, .int p635099, .int p635100, .ref q635088, .ref (γ 9 29), .int 0, .ref (γ 9 31), .int p635102, .int p635103, .int p635104, .ref q635089]) := e635141
  have hs635144 : rStr γ [] F635082 F635140 := rStr_put (rStr_rf (γ := γ) (W := []) (F := F635082)) n635142 htq635083 (by decide)
  refine G_iload_n 1 dr_cX17_word__5 rfl ?_
  refine G_if_lt 17 dr_cX17_word__6 (by decide +kernel) (fun hc635145 => ?_) (fun hc635145 => ?_)
  · have r635146 : p635084.toInt < 0 := gj_lt hc635145 (show Int32.toInt 0 = 0 by decide)
    have bp635084' : gB p635084 (-2147483648) (-1) := ⟨by omega, by omega⟩
    refine G_aload_n 0 dr_cX17_word__17 rfl ?_
    refine G_iconst 1 dr_cX17_word__18 (by decide +kernel) ?_
    have hT635147 : RS D I P635081 F635140 γ el := RS_set hT n635142 htq635083 (by decide) ⟨q635088, q635089, p635090, p635091, p635092, p635093, p635094, p635095, p635096, p635097, p635098, p635099, p635100, 0, p635102, p635103, p635104, he635143, ⟨bp635090, bp635091, (hB635131.2.2.1), (hB635131.2.2.2.1), (hB635131.2.2.2.2.1), (hB635131.2.2.2.2.2.1), (hB635131.2.2.2.2.2.2.1), bp635102, (hB635131.2.2.2.2.2.2.2.2)⟩, ht635105, ht635106, ht635107, ht635108, ht635109, ht635110, ht635111, ht635112, ht635113, ht635114, ht635115, ht635116, ht635117, ht635118, ht635119, ht635120, ht635121, ht635122, ht635123, ht635124, ht635125, ht635126, ht635127, ht635128, hB635132⟩
    have ac635148 : (fI (F635140 q635083) 9).toInt = p635090.toInt := by rw [he635143]; rfl
    have ac635149 : (fI (F635140 q635083) 10).toInt = p635091.toInt := by rw [he635143]; rfl
    have ac635150 : (fI (F635140 q635083) 32).toInt = p635102.toInt := by rw [he635143]; rfl
    refine Gw_callV (As := [.int 1]) (gV_ok D I) (ct_627106_SpillForgeModel_no l hl0 D I γ el P635081 F635140 q635083 1 hT635147 htq635083) dr_cX17_word__19 ⟨wr_7_191, wr_1_14, wr_7_194, by decide, rfl, (Nat.le_of_ble_eq_true rfl), (Nat.le_of_ble_eq_true rfl)⟩ wr_7_193 wr_p_73 hm635086 he635143 rfl (show 0 + 0 ≤ 0 by first | omega | decide) (show 0 + 0 ≤ 0 by first | omega | decide) (Nat.le_of_ble_eq_true rfl) (fun r635154 w635155 dc635151 ds635152 hp635153 => ?_) (fun _ _ _ _ _ z => z.elim)
    obtain ⟨F635160, rfl, rfl, hT635161, hs635162, hdc, hds, x635156, x635157, x635158, x635159⟩ := hp635153
    have hs635163 : rStr γ [] F635082 F635160 := rStr_tr hs635144 hs635162
    rw [show Int32.toInt 1 = 1 from by decide] at x635159
    change G _ _ _ _ _ _ _ (.int 0 :: _) _ _ _
    refine G_widen (cs' := 0) (sl' := 0) (by omega) (by omega) ?_
    refine G_i2l dr_cX17_word__22 (G_namL fun u635164 hu635164 => ?_)
    have hm635165 : q635083 ∈ P635081 := RS_m hT635161 htq635083 (by decide)
    refine rk10_e (show rk_10 γ (F635160 q635083) from RS_o hT635161 htq635083) (fun q635167 q635168 p635169 p635170 p635171 p635172 p635173 p635174 p635175 p635176 p635177 p635178 p635179 p635180 p635181 p635182 p635183 he635166 hB635210 ht635184 ht635185 ht635186 ht635187 ht635188 ht635189 ht635190 ht635191 ht635192 ht635193 ht635194 ht635195 ht635196 ht635197 ht635198 ht635199 ht635200 ht635201 ht635202 ht635203 ht635204 ht635205 ht635206 ht635207 hB635211 => ?_)
    have ac635212 : (fI (F635160 q635083) 9).toInt = p635169.toInt := by rw [he635166]; rfl
    have bp635169 : gB p635169 0 1 := (hB635210.1)
    have ac635213 : (fI (F635160 q635083) 10).toInt = p635170.toInt := by rw [he635166]; rfl
    have bp635170 : gB p635170 0 1 := (hB635210.2.1)
    have ac635214 : (fI (F635160 q635083) 32).toInt = p635181.toInt := by rw [he635166]; rfl
    have bp635181 : gB p635181 0 8192 := (hB635210.2.2.2.2.2.2.2.1)
    have ac635215 : (fI (F635160 q635083) 9).toInt = p635169.toInt := by rw [he635166]; rfl
    have ac635216 : (fI (F635160 q635083) 10).toInt = p635170.toInt := by rw [he635166]; rfl
    have ac635217 : (fI (F635160 q635083) 32).toInt = p635181.toInt := by rw [he635166]; rfl
    exact G_lretA dr_cX17_word__23 rfl (Nat.le_of_ble_eq_true rfl) (Nat.le_of_ble_eq_true rfl) ⟨F635160, u635164, rfl, rfl, hT635161, hs635163, (Nat.le_of_ble_eq_true rfl), (Nat.le_of_ble_eq_true rfl), (by omega), (by omega), (by omega)⟩
  · have r635218 : 0 ≤ p635084.toInt := gj_nlt hc635145 (show Int32.toInt 0 = 0 by decide)
    have bp635084' : gB p635084 0 2147483647 := ⟨by omega, by omega⟩
    refine G_iload_n 1 dr_cX17_word__9 rfl ?_
    refine G_aload_n 0 dr_cX17_word__10 rfl ?_
    refine Gp_get 34 hm635086 he635143 dr_cX17_word__11 (gk_X17 D I) (Nat.le_of_ble_eq_true rfl) wr_7_108 rfl ?_
    have bp635104 : gB p635104 0 16777216 := (hB635131.2.2.2.2.2.2.2.2)
    refine G_icmp_lt 24 dr_cX17_word__14 (by decide +kernel) (fun hc635219 => ?_) (fun hc635219 => ?_)
    · have r635220 : p635084.toInt < p635104.toInt := gC_lt hc635219
      have bp635084'' : gB p635084 0 16777215 := ⟨by omega, by omega⟩
      have bp635104' : gB p635104 1 16777216 := ⟨by omega, by omega⟩
      refine G_lconst 0 dr_cX17_word__24 rfl ?_
      refine G_lstore_n (L' := [(2, .long 0), (0, .ref q635083), (1, .int p635084)]) dr_cX17_word__25 (Nat.le_of_ble_eq_true rfl) rfl ?_
      refine G_iconst 0 dr_cX17_word__26 (by decide +kernel) ?_
      refine G_istore (L' := [(4, .int 0), (2, .long 0), (0, .ref q635083), (1, .int p635084)]) dr_cX17_word__27 (Nat.le_of_ble_eq_true rfl) rfl ?_
      have hT635221 : RS D I P635081 F635140 γ el := RS_set hT n635142 htq635083 (by decide) ⟨q635088, q635089, p635090, p635091, p635092, p635093, p635094, p635095, p635096, p635097, p635098, p635099, p635100, 0, p635102, p635103, p635104, he635143, ⟨bp635090, bp635091, (hB635131.2.2.1), (hB635131.2.2.2.1), (hB635131.2.2.2.2.1), (hB635131.2.2.2.2.2.1), (hB635131.2.2.2.2.2.2.1), bp635102, (gB_w bp635104' (by decide) (by decide))⟩, ht635105, ht635106, ht635107, ht635108, ht635109, ht635110, ht635111, ht635112, ht635113, ht635114, ht635115, ht635116, ht635117, ht635118, ht635119, ht635120, ht635121, ht635122, ht635123, ht635124, ht635125, ht635126, ht635127, ht635128, hB635132⟩
      have hlp29_635331 : ∀ (n29_635331 : Nat) (g635330 : Int32) (gl635331 : Int64), gB g635330 0 8 → ((9 : Int) - g635330.toInt).toNat < n29_635331 → G (gV D I) l (gRm 1 21 0 0) (gMA (gV D I) (pt_635085_SpillForgeModel_word D I γ el P635081 F635082 q635083 p635084) gNA 0 0) ky_635085_SpillForgeModel_word 29 [(4, .int g635330), (2, .long gl635331), (0, .ref q635083), (1, .int p635084)] [] (va_pl P635081 F635140) 0 0 := by
        intro n29_635331
        induction n29_635331 with
        | zero => intro g635330 gl635331 bg635330 hm29_635331; exact absurd hm29_635331 (Nat.not_lt_zero _)
        | succ n29_635331 ih29_635331 =>
          intro g635330 gl635331 bg635330 hm29_635331
          refine G_iload 0 dr_cX17_word__29 rfl ?_
          refine G_bipush 8 dr_cX17_word__31 (by decide +kernel) ?_
          refine G_icmp_ge 77 dr_cX17_word__33 (by decide +kernel) (fun hc635333 => ?_) (fun hc635333 => ?_)
          · have r635334 : 8 ≤ g635330.toInt := gj_leL hc635333 (show Int32.toInt 8 = 8 by decide)
            have bg635330' : gB g635330 8 8 := ⟨by omega, by omega⟩
            refine G_lload_n 1 dr_cX17_word__77 rfl ?_
            have ac635335 : (fI (F635140 q635083) 9).toInt = p635090.toInt := by rw [he635143]; rfl
            have ac635336 : (fI (F635140 q635083) 10).toInt = p635091.toInt := by rw [he635143]; rfl
            have ac635337 : (fI (F635140 q635083) 32).toInt = p635102.toInt := by rw [he635143]; rfl
            exact G_lretA dr_cX17_word__78 rfl (Nat.le_of_ble_eq_true rfl) (Nat.le_of_ble_eq_true rfl) ⟨F635140, gl635331, rfl, rfl, hT635221, hs635144, (Nat.le_of_ble_eq_true rfl), (Nat.le_of_ble_eq_true rfl), (by omega), (by omega), (by omega)⟩
          · have r635338 : g635330.toInt < 8 := gj_nleL hc635333 (show Int32.toInt 8 = 8 by decide)
            have bg635330' : gB g635330 0 7 := ⟨by omega, by omega⟩
            refine G_lload_n 1 dr_cX17_word__36 rfl ?_
            refine G_bipush 8 dr_cX17_word__37 (by decide +kernel) ?_
            refine G_lshl dr_cX17_word__39 (G_namL fun u635339 hu635339 => ?_)
            refine G_iload_n 3 dr_cX17_word__40 rfl ?_
            refine G_iload 0 dr_cX17_word__41 rfl ?_
            refine G_iadd dr_cX17_word__43 (G_nam fun z635340 hz635340 => ?_)
            have ez635340 : z635340.toInt = p635084.toInt + g635330.toInt := by rw [gI_add hz635340 bp635084'' bg635330' (by decide) (by decide)]
            have bz635340 : gB z635340 0 16777222 := gB_add (gI_add hz635340 bp635084'' bg635330' (by decide) (by decide)) bp635084'' bg635330' (by decide) (by decide)
            refine G_aload_n 2 dr_cX17_word__44 rfl ?_
            refine Gp_get 34 hm635086 he635143 dr_cX17_word__45 (gk_X17 D I) (Nat.le_of_ble_eq_true rfl) wr_7_108 rfl ?_
            refine G_icmp_ge 67 dr_cX17_word__48 (by decide +kernel) (fun hc635341 => ?_) (fun hc635341 => ?_)
            · have r635342 : p635104.toInt ≤ z635340.toInt := gC_le hc635341
              have bz635340' : gB z635340 1 16777222 := ⟨by omega, by omega⟩
              refine G_iconst 0 dr_cX17_word__67 (by decide +kernel) ?_
              refine G_i2l dr_cX17_word__68 (G_namL fun u635343 hu635343 => ?_)
              refine G_lor dr_cX17_word__69 (G_namL fun u635344 hu635344 => ?_)
              refine G_lstore_n (L' := [(2, .long u635344), (4, .int g635330), (0, .ref q635083), (1, .int p635084)]) dr_cX17_word__70 (Nat.le_of_ble_eq_true rfl) rfl ?_
              obtain ⟨z635345, hz635345⟩ : ∃ z : Int32, z = g635330 + Int32.ofInt 1 := ⟨_, rfl⟩
              have ez635345 : z635345.toInt = g635330.toInt + 1 := gI_inc hz635345 (by decide) bg635330' (by decide) (by decide)
              have bz635345 : gB z635345 1 8 := ⟨by omega, by omega⟩
              refine G_iinc (L' := [(4, .int z635345), (2, .long u635344), (0, .ref q635083), (1, .int p635084)]) z635345 1 dr_cX17_word__71 rfl hz635345.symm (Nat.le_of_ble_eq_true rfl) rfl ?_
              refine G_goto 29 dr_cX17_word__74 (by decide +kernel) ?_
              have ac635346 : (fI (F635140 q635083) 9).toInt = p635090.toInt := by rw [he635143]; rfl
              have ac635347 : (fI (F635140 q635083) 10).toInt = p635091.toInt := by rw [he635143]; rfl
              have ac635348 : (fI (F635140 q635083) 32).toInt = p635102.toInt := by rw [he635143]; rfl
              exact ih29_635331 z635345 u635344 (gB_w bz635345 (by decide) (by decide)) (mz_up ez635345 (Int.le_trans bg635330'.2 (by decide)) hm29_635331)
            · have r635349 : z635340.toInt < p635104.toInt := gC_nle hc635341
              have bz635340' : gB z635340 0 16777215 := ⟨by omega, by omega⟩
              refine G_aload_n 2 dr_cX17_word__51 rfl ?_
              refine Gp_get 35 hm635086 he635143 dr_cX17_word__52 (gk_X17 D I) (Nat.le_of_ble_eq_true rfl) wr_7_109 rfl ?_
              refine G_iload_n 3 dr_cX17_word__55 rfl ?_
              refine G_iload 0 dr_cX17_word__56 rfl ?_
              refine G_iadd dr_cX17_word__58 (G_nam fun z635350 hz635350 => ?_)
              have ez635350 : z635350.toInt = p635084.toInt + g635330.toInt := by rw [gI_add hz635350 bp635084'' bg635330' (by decide) (by decide)]
              have bz635350 : gB z635350 0 16777222 := gB_add (gI_add hz635350 bp635084'' bg635330' (by decide) (by decide)) bp635084'' bg635330' (by decide) (by decide)
              have hm635351 : q635089 ∈ P635081 := RS_m hT635221 ht635106 (by decide)
              obtain ⟨n635354, f635353, he635352, bf635353, hn635354, gn635354⟩ := show rk_27 I γ q635089 (F635140 q635089) from RS_o hT635221 ht635106
              refine Gp_bald 1 hm635351 he635352 dr_cX17_word__59 rfl (gB_inr (by omega) (by omega)) (G_nam fun z635355 hz635355 => ?_)
              have bz635355 : gB z635355 (-128) 127 := by rw [hz635355]; exact bf635353 _
              refine G_sipush 255 dr_cX17_word__60 (by decide +kernel) ?_
              refine G_iand dr_cX17_word__63 (G_nam fun z635356 hz635356 => ?_)
              have bz635356 : gB z635356 0 255 := gB_and hz635356 (gBl (show Int32.toInt 255 = 255 by decide)) (by decide)
              refine G_goto 68 dr_cX17_word__64 (by decide +kernel) ?_
              refine G_i2l dr_cX17_word__68 (G_namL fun u635357 hu635357 => ?_)
              refine G_lor dr_cX17_word__69 (G_namL fun u635358 hu635358 => ?_)
              refine G_lstore_n (L' := [(2, .long u635358), (4, .int g635330), (0, .ref q635083), (1, .int p635084)]) dr_cX17_word__70 (Nat.le_of_ble_eq_true rfl) rfl ?_
              obtain ⟨z635359, hz635359⟩ : ∃ z : Int32, z = g635330 + Int32.ofInt 1 := ⟨_, rfl⟩
              have ez635359 : z635359.toInt = g635330.toInt + 1 := gI_inc hz635359 (by decide) bg635330' (by decide) (by decide)
              have bz635359 : gB z635359 1 8 := ⟨by omega, by omega⟩
              refine G_iinc (L' := [(4, .int z635359), (2, .long u635358), (0, .ref q635083), (1, .int p635084)]) z635359 1 dr_cX17_word__71 rfl hz635359.symm (Nat.le_of_ble_eq_true rfl) rfl ?_
              refine G_goto 29 dr_cX17_word__74 (by decide +kernel) ?_
              have ac635360 : (fI (F635140 q635083) 9).toInt = p635090.toInt := by rw [he635143]; rfl
              have ac635361 : (fI (F635140 q635083) 10).toInt = p635091.toInt := by rw [he635143]; rfl
              have ac635362 : (fI (F635140 q635083) 32).toInt = p635102.toInt := by rw [he635143]; rfl
              exact ih29_635331 z635359 u635358 (gB_w bz635359 (by decide) (by decide)) (mz_up ez635359 (Int.le_trans bg635330'.2 (by decide)) hm29_635331)
      have ac635363 : (fI (F635140 q635083) 9).toInt = p635090.toInt := by rw [he635143]; rfl
      have ac635364 : (fI (F635140 q635083) 10).toInt = p635091.toInt := by rw [he635143]; rfl
      have ac635365 : (fI (F635140 q635083) 32).toInt = p635102.toInt := by rw [he635143]; rfl
      exact hlp29_635331 (((9 : Int) - 0).toNat + 1) 0 0 (gB_w (gBl (show Int32.toInt 0 = 0 by decide)) (by decide) (by decide)) (Nat.lt_succ_self _)
    · have r635366 : p635104.toInt ≤ p635084.toInt := gC_nlt hc635219
      refine G_aload_n 0 dr_cX17_word__17 rfl ?_
      refine G_iconst 1 dr_cX17_word__18 (by decide +kernel) ?_
      have hT635367 : RS D I P635081 F635140 γ el := RS_set hT n635142 htq635083 (by decide) ⟨q635088, q635089, p635090, p635091, p635092, p635093, p635094, p635095, p635096, p635097, p635098, p635099, p635100, 0, p635102, p635103, p635104, he635143, ⟨bp635090, bp635091, (hB635131.2.2.1), (hB635131.2.2.2.1), (hB635131.2.2.2.2.1), (hB635131.2.2.2.2.2.1), (hB635131.2.2.2.2.2.2.1), bp635102, bp635104⟩, ht635105, ht635106, ht635107, ht635108, ht635109, ht635110, ht635111, ht635112, ht635113, ht635114, ht635115, ht635116, ht635117, ht635118, ht635119, ht635120, ht635121, ht635122, ht635123, ht635124, ht635125, ht635126, ht635127, ht635128, hB635132⟩
      have ac635368 : (fI (F635140 q635083) 9).toInt = p635090.toInt := by rw [he635143]; rfl
      have ac635369 : (fI (F635140 q635083) 10).toInt = p635091.toInt := by rw [he635143]; rfl
      have ac635370 : (fI (F635140 q635083) 32).toInt = p635102.toInt := by rw [he635143]; rfl
      refine Gw_callV (As := [.int 1]) (gV_ok D I) (ct_627106_SpillForgeModel_no l hl0 D I γ el P635081 F635140 q635083 1 hT635367 htq635083) dr_cX17_word__19 ⟨wr_7_191, wr_1_14, wr_7_194, by decide, rfl, (Nat.le_of_ble_eq_true rfl), (Nat.le_of_ble_eq_true rfl)⟩ wr_7_193 wr_p_73 hm635086 he635143 rfl (show 0 + 0 ≤ 0 by first | omega | decide) (show 0 + 0 ≤ 0 by first | omega | decide) (Nat.le_of_ble_eq_true rfl) (fun r635374 w635375 dc635371 ds635372 hp635373 => ?_) (fun _ _ _ _ _ z => z.elim)
      obtain ⟨F635380, rfl, rfl, hT635381, hs635382, hdc, hds, x635376, x635377, x635378, x635379⟩ := hp635373
      have hs635383 : rStr γ [] F635082 F635380 := rStr_tr hs635144 hs635382
      rw [show Int32.toInt 1 = 1 from by decide] at x635379
      change G _ _ _ _ _ _ _ (.int 0 :: _) _ _ _
      refine G_widen (cs' := 0) (sl' := 0) (by omega) (by omega) ?_
      refine G_i2l dr_cX17_word__22 (G_namL fun u635384 hu635384 => ?_)
      have hm635385 : q635083 ∈ P635081 := RS_m hT635381 htq635083 (by decide)
      refine rk10_e (show rk_10 γ (F635380 q635083) from RS_o hT635381 htq635083) (fun q635387 q635388 p635389 p635390 p635391 p635392 p635393 p635394 p635395 p635396 p635397 p635398 p635399 p635400 p635401 p635402 p635403 he635386 hB635430 ht635404 ht635405 ht635406 ht635407 ht635408 ht635409 ht635410 ht635411 ht635412 ht635413 ht635414 ht635415 ht635416 ht635417 ht635418 ht635419 ht635420 ht635421 ht635422 ht635423 ht635424 ht635425 ht635426 ht635427 hB635431 => ?_)
      have ac635432 : (fI (F635380 q635083) 9).toInt = p635389.toInt := by rw [he635386]; rfl
      have bp635389 : gB p635389 0 1 := (hB635430.1)
      have ac635433 : (fI (F635380 q635083) 10).toInt = p635390.toInt := by rw [he635386]; rfl
      have bp635390 : gB p635390 0 1 := (hB635430.2.1)
      have ac635434 : (fI (F635380 q635083) 32).toInt = p635401.toInt := by rw [he635386]; rfl
      have bp635401 : gB p635401 0 8192 := (hB635430.2.2.2.2.2.2.2.1)
      have ac635435 : (fI (F635380 q635083) 9).toInt = p635389.toInt := by rw [he635386]; rfl
      have ac635436 : (fI (F635380 q635083) 10).toInt = p635390.toInt := by rw [he635386]; rfl
      have ac635437 : (fI (F635380 q635083) 32).toInt = p635401.toInt := by rw [he635386]; rfl
      exact G_lretA dr_cX17_word__23 rfl (Nat.le_of_ble_eq_true rfl) (Nat.le_of_ble_eq_true rfl) ⟨F635380, u635384, rfl, rfl, hT635381, hs635383, (Nat.le_of_ble_eq_true rfl), (Nat.le_of_ble_eq_true rfl), (by omega), (by omega), (by omega)⟩
abbrev ky_635523_SpillForgeModel_no : gKey := (cX17_no, 2, "SpillForgeModel", (some FieldType.int), [], "no", fun _ _ => True)
def pt_635523_SpillForgeModel_no (D : va_G) (I : FieldType → ClassId) (γ el : Nat → Nat → Nat) (P635519 : List Nat) (F635520 : Nat → va_E) (q635521 : Nat) (p635522 : Int32) : Option Value → va_W → Nat → Nat → Prop := fun r w dc ds => ∃ (F635580 : Nat → va_E), r = some (.int 0) ∧ w = va_pl P635519 F635580 ∧ RS D I P635519 F635580 γ el ∧ rStr γ [] F635520 F635580 ∧ dc ≤ 0 ∧ ds ≤ 0 ∧ (fI (F635580 q635521) 10).toInt = (fI (F635520 q635521) 10).toInt ∧ mKp (F635520 q635521) (F635580 q635521)
set_option maxRecDepth 100000 in
set_option maxHeartbeats 4000000 in
theorem ct_635523_SpillForgeModel_no (l : Launch) (hl0 : l.stackTraces = false) (D : va_G) (I : FieldType → ClassId) (γ el : Nat → Nat → Nat) (P635519 : List Nat) (F635520 : Nat → va_E) (q635521 : Nat) (p635522 : Int32) (hT : RS D I P635519 F635520 γ el) (htq635521 : rKd γ q635521 10) : CtA (gV D I) l yX17_no cX17_no 2 (some FieldType.int) 0 0 0 0 [.ref q635521, .int p635522] (va_pl P635519 F635520) (pt_635523_SpillForgeModel_no D I γ el P635519 F635520 q635521 p635522) gNA := by
  refine CtA_of hl0 (by decide) (Nat.le_of_ble_eq_true rfl) ?_
  have bp635522 := gB_any p635522
  have hm635524 : q635521 ∈ P635519 := RS_m hT htq635521 (by decide)
  refine rk10_e (show rk_10 γ (F635520 q635521) from RS_o hT htq635521) (fun q635526 q635527 p635528 p635529 p635530 p635531 p635532 p635533 p635534 p635535 p635536 p635537 p635538 p635539 p635540 p635541 p635542 he635525 hB635569 ht635543 ht635544 ht635545 ht635546 ht635547 ht635548 ht635549 ht635550 ht635551 ht635552 ht635553 ht635554 ht635555 ht635556 ht635557 ht635558 ht635559 ht635560 ht635561 ht635562 ht635563 ht635564 ht635565 ht635566 hB635570 => ?_)
  have ac635571 : (fI (F635520 q635521) 10).toInt = p635529.toInt := by rw [he635525]; rfl
  have bp635529 : gB p635529 0 1 := (hB635569.2.1)
  refine G_aload_n 0 dr_cX17_no_0 rfl ?_
  refine G_iload_n 1 dr_cX17_no_1 rfl ?_
  refine Gp_put 30 hm635524 he635525 dr_cX17_no_2 (gk_X17 D I) (Nat.le_of_ble_eq_true rfl) wr_7_104 rfl rfl rfl (Nat.le_of_ble_eq_true rfl) (fun F635572 e635573 n635574 => ?_)
  have he635575 : F635572 q635521 = .inr (22, [.ref (γ 9 0), .ref (γ 9 1), .ref (γ 9 2), .ref (γ 9 3), .ref (γ 9 4), .ref (γ 9 5), .ref (γ 9 6), .ref (γ 9 7), .ref (γ 9 8), .int p635528, .int p635529, .int p635530, .int p635531, .int p635532, .int p635533, .ref (γ 9 15), .ref (γ 9 16), .ref (γ 9 17), .ref (γ 9 18), .ref (γ 9 19), .ref (γ 9 20), .ref (γ 9 21), .ref (γ 9 22), .int p635534, .int p635535, .int p635536, .int p635537, .int p635538, .ref q635526, .ref (γ 9 29), .int p635522, .ref (γ 9 31), .int p635540, .int p635541, .int p635542, .ref q635527]) := e635573
  have mk635576 : mKp (F635520 q635521) (F635572 q635521) := mKp_tr mKp_rf (by rw [he635525, he635575]; exact ⟨rfl, rfl⟩)
  have hs635577 : rStr γ [] F635520 F635572 := rStr_put (rStr_rf (γ := γ) (W := []) (F := F635520)) n635574 htq635521 (by decide)
  refine G_iconst 0 dr_cX17_no_5 (by decide +kernel) ?_
  have hT635578 : RS D I P635519 F635572 γ el := RS_set hT n635574 htq635521 (by decide) ⟨q635526, q635527, p635528, p635529, p635530, p635531, p635532, p635533, p635534, p635535, p635536, p635537, p635538, p635522, p635540, p635541, p635542, he635575, ⟨(hB635569.1), bp635529, (hB635569.2.2.1), (hB635569.2.2.2.1), (hB635569.2.2.2.2.1), (hB635569.2.2.2.2.2.1), (hB635569.2.2.2.2.2.2.1), (hB635569.2.2.2.2.2.2.2.1), (hB635569.2.2.2.2.2.2.2.2)⟩, ht635543, ht635544, ht635545, ht635546, ht635547, ht635548, ht635549, ht635550, ht635551, ht635552, ht635553, ht635554, ht635555, ht635556, ht635557, ht635558, ht635559, ht635560, ht635561, ht635562, ht635563, ht635564, ht635565, ht635566, hB635570⟩
  have ac635579 : (fI (F635572 q635521) 10).toInt = p635529.toInt := by rw [he635575]; rfl
  exact G_iretA dr_cX17_no_6 rfl (Nat.le_of_ble_eq_true rfl) (Nat.le_of_ble_eq_true rfl) ⟨F635572, rfl, rfl, hT635578, hs635577, (Nat.le_of_ble_eq_true rfl), (Nat.le_of_ble_eq_true rfl), (by have qa0 : Int32.toInt 0 = 0 := (by decide); omega), mk635576⟩
abbrev ky_635452_SpillForgeModel_give : gKey := (cX17_give, 3, "SpillForgeModel", (some FieldType.int), [], "give", fun _ _ => True)
def pg_635452_SpillForgeModel_give (D : va_G) (I : FieldType → ClassId) (γ0 el0 : Nat → Nat → Nat) (f : Nat) (fo : Nat) (B : Nat) (P635440 : List Nat) (F635441 : Nat → va_E) (q635442 : Nat) (p635443 : Int32) (q635444 : Nat) (q635445 : Nat) : Option Value → va_W → Nat → Nat → Prop := fun r w dc ds => ∃ (P636036 : List Nat) (F636037 : Nat → va_E) (γ el : Nat → Nat → Nat) (o636035 : Int32), r = some (.int o636035) ∧ w = va_pl P636036 F636037 ∧ rSk f [1, 2, 3, 101, 102, 103, 202] ([1, 2, 3, 4, 5, 6, 7, 8, 9, 101, 102, 103, 202] ++ npk) D I P635440 F635441 γ0 el0 P636036 F636037 γ el ∧ (18 * dc + rPh γ0 el0 f ≤ rPh γ el f ∧ ds + rPh γ0 el0 f ≤ rPh γ el f) ∧ rBd γ el f B ∧ gB o636035 (-1) 40 ∧ ((fI (F636037 q635442) 10).toInt = 0 ∨ 0 < γ 6 f) ∧ mKp (F635441 q635442) (F636037 q635442)
set_option maxRecDepth 100000 in
set_option maxHeartbeats 20000000 in
theorem cg_635452_SpillForgeModel_give (l : Launch) (hl0 : l.stackTraces = false) (D : va_G) (I : FieldType → ClassId) (γ0 el0 : Nat → Nat → Nat) (f : Nat) (fo : Nat) (B : Nat) (P635440 : List Nat) (F635441 : Nat → va_E) (q635442 : Nat) (p635443 : Int32) (q635444 : Nat) (q635445 : Nat) (hT0 : RS D I P635440 F635441 γ0 el0) (hzq635442 : rKd γ0 q635442 10) (hzq635444 : rKd γ0 q635444 9) (hzq635445 : rKd γ0 q635445 9) (hvq635444 : γ0 9 7 = q635444) (hvq635445 : γ0 9 6 = q635445) (hf0 : γ0 1 q635444 = f) (hfo0 : γ0 1 q635445 = fo) (hne : fo ≠ f) (hB0 : rBd γ0 el0 f B) (hBk : B ≤ 100000) (x635446 : f = 1) (x635447 : fo = 0) (x635448 : ((fI (F635441 q635442) 9).toInt = 0 ∨ (0 < γ0 6 fo ∧ γ0 16 fo ≤ 160))) (x635449 : γ0 7 fo = 0) (x635450 : 4060 ≤ B) (x635451 : ((fI (F635441 q635442) 10).toInt = 0 ∨ 0 < γ0 6 f)) : CtA (gV D I) l yX17_give cX17_give 3 (some FieldType.int) 11 251 (((387 * B + 6000) - rPh γ0 el0 f) / 18) ((387 * B + 6000) - rPh γ0 el0 f) [.ref q635442, .int p635443] (va_pl P635440 F635441) (pg_635452_SpillForgeModel_give D I γ0 el0 f fo B P635440 F635441 q635442 p635443 q635444 q635445) gNA := by
  refine CtA_of hl0 (by decide) (Nat.le_of_ble_eq_true rfl) ?_
  have bp635443 := gB_any p635443
  obtain ⟨γ, hγ0⟩ : ∃ z, z = γ0 := ⟨_, rfl⟩
  obtain ⟨el, hel0⟩ : ∃ z, z = el0 := ⟨_, rfl⟩
  have hT : RS D I P635440 F635441 γ el := by rw [hγ0, hel0]; exact hT0
  have hst : rSk f [1, 2, 3, 101, 102, 103, 202] ([1, 2, 3, 4, 5, 6, 7, 8, 9, 101, 102, 103, 202] ++ npk) D I P635440 F635441 γ0 el0 P635440 F635441 γ el := by rw [hγ0, hel0]; exact rSk_rf hT0
  have hph : rPh γ0 el0 f ≤ rPh γ el f := by rw [hγ0, hel0]; exact Nat.le_refl _
  have hB : rBd γ el f B := by rw [hγ0, hel0]; exact hB0
  have htq635442 : rKd γ q635442 10 := by rw [hγ0]; exact hzq635442
  have htq635444 : rKd γ q635444 9 := by rw [hγ0]; exact hzq635444
  have htq635445 : rKd γ q635445 9 := by rw [hγ0]; exact hzq635445
  have hf1 : γ 1 q635444 = f := by rw [hγ0]; exact hf0
  have hfo1 : γ 1 q635445 = fo := by rw [hγ0]; exact hfo0
  have x635448n : ((fI (F635441 q635442) 9).toInt = 0 ∨ (0 < γ 6 fo ∧ γ 16 fo ≤ 160)) := by rw [hγ0]; exact x635448
  have x635449n : γ 7 fo = 0 := by rw [hγ0]; exact x635449
  have x635451n : ((fI (F635441 q635442) 10).toInt = 0 ∨ 0 < γ 6 f) := by rw [hγ0]; exact x635451
  have pk635453 : rPh γ el f ≤ 387 * B + 6000 := rm_pk (rM_ge hT htq635444 hf1).1 (rM_bd hB)
  refine G_widen (cs' := ((rPh γ el f - rPh γ0 el0 f) / 18)) (sl' := (rPh γ el f - rPh γ0 el0 f)) (Nat.zero_le _) (Nat.zero_le _) ?_
  have lz0 : Int32.toInt 0 = 0 := by decide
  have r635454 : γ 6 f = γ0 6 f := by rw [hγ0]
  have r635455 : γ 7 f = γ0 7 f := by rw [hγ0]
  have r635456 : γ 16 f = γ0 16 f := by rw [hγ0]
  have r635457 : γ 18 f = γ0 18 f := by rw [hγ0]
  have r635458 : γ 19 f = γ0 19 f := by rw [hγ0]
  have hm635459 : q635442 ∈ P635440 := RS_m hT htq635442 (by decide)
  refine rk10_e (show rk_10 γ (F635441 q635442) from RS_o hT htq635442) (fun q635461 q635462 p635463 p635464 p635465 p635466 p635467 p635468 p635469 p635470 p635471 p635472 p635473 p635474 p635475 p635476 p635477 he635460 hB635504 ht635478 ht635479 ht635480 ht635481 ht635482 ht635483 ht635484 ht635485 ht635486 ht635487 ht635488 ht635489 ht635490 ht635491 ht635492 ht635493 ht635494 ht635495 ht635496 ht635497 ht635498 ht635499 ht635500 ht635501 hB635505 => ?_)
  have ac0_9 : (fI (F635441 q635442) 9).toInt = p635463.toInt := by rw [he635460]; rfl
  have ac0_10 : (fI (F635441 q635442) 10).toInt = p635464.toInt := by rw [he635460]; rfl
  have ac0_32 : (fI (F635441 q635442) 32).toInt = p635475.toInt := by rw [he635460]; rfl
  have r635506 : γ 6 fo = γ0 6 fo := by rw [hγ0]
  have r635507 : γ 7 fo = γ0 7 fo := by rw [hγ0]
  have r635508 : γ 16 fo = γ0 16 fo := by rw [hγ0]
  refine G_aload_n 0 dr_cX17_give_0 rfl ?_
  refine G_iconst 0 dr_cX17_give_1 (by decide +kernel) ?_
  refine Gp_put 30 hm635459 he635460 dr_cX17_give_2 (gk_X17 D I) (Nat.le_of_ble_eq_true rfl) wr_7_104 rfl rfl rfl (Nat.le_of_ble_eq_true rfl) (fun F635509 e635510 n635511 => ?_)
  have he635512 : F635509 q635442 = .inr (22, [.ref (γ 9 0), .ref (γ 9 1), .ref (γ 9 2), .ref (γ 9 3), .ref (γ 9 4), .ref (γ 9 5), .ref (γ 9 6), .ref (γ 9 7), .ref (γ 9 8), .int p635463, .int p635464, .int p635465, .int p635466, .int p635467, .int p635468, .ref (γ 9 15), .ref (γ 9 16), .ref (γ 9 17), .ref (γ 9 18), .ref (γ 9 19), .ref (γ 9 20), .ref (γ 9 21), .ref (γ 9 22), .int p635469, .int p635470, .int p635471, .int p635472, .int p635473, .ref q635461, .ref (γ 9 29), .int 0, .ref (γ 9 31), .int p635475, .int p635476, .int p635477, .ref q635462]) := e635510
  have mk635513 : mKp (F635441 q635442) (F635509 q635442) := mKp_tr mKp_rf (by rw [he635460, he635512]; exact ⟨rfl, rfl⟩)
  have hT635514 : RS D I P635440 F635509 γ el := RS_set hT n635511 htq635442 (by decide) ⟨q635461, q635462, p635463, p635464, p635465, p635466, p635467, p635468, p635469, p635470, p635471, p635472, p635473, 0, p635475, p635476, p635477, he635512, ⟨(hB635504.1), (hB635504.2.1), (hB635504.2.2.1), (hB635504.2.2.2.1), (hB635504.2.2.2.2.1), (hB635504.2.2.2.2.2.1), (hB635504.2.2.2.2.2.2.1), (hB635504.2.2.2.2.2.2.2.1), (hB635504.2.2.2.2.2.2.2.2)⟩, ht635478, ht635479, ht635480, ht635481, ht635482, ht635483, ht635484, ht635485, ht635486, ht635487, ht635488, ht635489, ht635490, ht635491, ht635492, ht635493, ht635494, ht635495, ht635496, ht635497, ht635498, ht635499, ht635500, ht635501, hB635505⟩
  have hs635515 := rSk_put hst hT635514 n635511 htq635442 (by decide) (by decide)
  have ac635516 : (fI (F635509 q635442) 10).toInt = p635464.toInt := by rw [he635512]; rfl
  refine G_iload_n 1 dr_cX17_give_5 rfl ?_
  refine G_iconst 1 dr_cX17_give_6 (by decide +kernel) ?_
  refine G_icmp_lt 16 dr_cX17_give_7 (by decide +kernel) (fun hc635517 => ?_) (fun hc635517 => ?_)
  · have r635518 : p635443.toInt < 1 := gj_lt hc635517 (show Int32.toInt 1 = 1 by decide)
    have bp635443' : gB p635443 (-2147483648) 0 := ⟨by omega, by omega⟩
    refine G_aload_n 0 dr_cX17_give_16 rfl ?_
    refine G_iconst 1 dr_cX17_give_17 (by decide +kernel) ?_
    refine Gw_callV (As := [.int 1]) (gV_ok D I) (ct_635523_SpillForgeModel_no l hl0 D I γ el P635440 F635509 q635442 1 hT635514 htq635442) dr_cX17_give_18 ⟨wr_7_191, wr_1_14, wr_7_194, by decide, rfl, (Nat.le_of_ble_eq_true rfl), (Nat.le_of_ble_eq_true rfl)⟩ wr_7_193 wr_p_73 hm635459 he635512 rfl (rm_zc pk635453) (rm_zs pk635453) (Nat.le_of_ble_eq_true rfl) (fun r635584 w635585 dc635581 ds635582 hp635583 => ?_) (fun _ _ _ _ _ z => z.elim)
    obtain ⟨F635588, rfl, rfl, hT635589, hs635590, hdc, hds, x635586, x635587⟩ := hp635583
    have hs635591 := rSk_str hs635515 hT635589 hs635590 (by decide) (by decide) (by decide)
    have mk635592 : mKp (F635441 q635442) (F635588 q635442) := mKp_tr mk635513 x635587
    change G _ _ _ _ _ _ _ (.int 0 :: _) _ _ _
    refine G_widen (cs' := ((rPh γ el f - rPh γ0 el0 f) / 18)) (sl' := (rPh γ el f - rPh γ0 el0 f)) (rm_d0 hdc) (rm_d0 hds) ?_
    have hm635593 : q635442 ∈ P635440 := RS_m hT635589 htq635442 (by decide)
    refine rk10_e (show rk_10 γ (F635588 q635442) from RS_o hT635589 htq635442) (fun q635595 q635596 p635597 p635598 p635599 p635600 p635601 p635602 p635603 p635604 p635605 p635606 p635607 p635608 p635609 p635610 p635611 he635594 hB635638 ht635612 ht635613 ht635614 ht635615 ht635616 ht635617 ht635618 ht635619 ht635620 ht635621 ht635622 ht635623 ht635624 ht635625 ht635626 ht635627 ht635628 ht635629 ht635630 ht635631 ht635632 ht635633 ht635634 ht635635 hB635639 => ?_)
    have ac635640 : (fI (F635588 q635442) 9).toInt = p635597.toInt := by rw [he635594]; rfl
    have ac635641 : (fI (F635588 q635442) 10).toInt = p635598.toInt := by rw [he635594]; rfl
    have ac635642 : (fI (F635588 q635442) 32).toInt = p635609.toInt := by rw [he635594]; rfl
    exact G_iretA dr_cX17_give_21 rfl (show ((rPh γ el f - rPh γ0 el0 f) / 18) ≤ (((387 * B + 6000) - rPh γ0 el0 f) / 18) by omega) (show (rPh γ el f - rPh γ0 el0 f) ≤ ((387 * B + 6000) - rPh γ0 el0 f) by omega) ⟨P635440, F635588, γ, el, 0, rfl, rfl, hs635591, ⟨by omega, by omega⟩, hB, (gB_w (gBl (show Int32.toInt 0 = 0 by decide)) (by decide) (by decide)), (by have qa0 : Int32.toInt 0 = 0 := (by decide); omega), mk635592⟩
  · have r635643 : 1 ≤ p635443.toInt := gj_nlt hc635517 (show Int32.toInt 1 = 1 by decide)
    have bp635443' : gB p635443 1 2147483647 := ⟨by omega, by omega⟩
    refine G_iload_n 1 dr_cX17_give_10 rfl ?_
    refine G_bipush 32 dr_cX17_give_11 (by decide +kernel) ?_
    refine G_icmp_le 22 dr_cX17_give_13 (by decide +kernel) (fun hc635644 => ?_) (fun hc635644 => ?_)
    · have r635645 : p635443.toInt ≤ 32 := gj_le hc635644 (show Int32.toInt 32 = 32 by decide)
      have bp635443'' : gB p635443 1 32 := ⟨by omega, by omega⟩
      refine G_aload_n 0 dr_cX17_give_22 rfl ?_
      refine Gp_get 9 hm635459 he635512 dr_cX17_give_23 (gk_X17 D I) (Nat.le_of_ble_eq_true rfl) wr_7_83 rfl ?_
      have bp635463 : gB p635463 0 1 := (hB635504.1)
      refine G_if_ne 35 dr_cX17_give_26 (by decide +kernel) (fun hc635646 => ?_) (fun hc635646 => ?_)
      · have r635647 : p635463.toInt ≠ 0 := gj_neq hc635646 (show Int32.toInt 0 = 0 by decide)
        have bp635463' : gB p635463 1 1 := gB_t1 bp635463 r635647
        refine G_aload_n 0 dr_cX17_give_35 rfl ?_
        refine Gp_get 7 hm635459 he635512 dr_cX17_give_36 (gk_X17 D I) (Nat.le_of_ble_eq_true rfl) wr_7_81 rfl ?_
        rw [show γ 9 7 = q635444 from (congrFun (rSk_9 hs635515) 7).trans hvq635444]
        refine G_aload_n 0 dr_cX17_give_39 rfl ?_
        refine Gp_get 6 hm635459 he635512 dr_cX17_give_40 (gk_X17 D I) (Nat.le_of_ble_eq_true rfl) wr_7_80 rfl ?_
        rw [show γ 9 6 = q635445 from (congrFun (rSk_9 hs635515) 6).trans hvq635445]
        have rg635648 := rM_ge hT635514 htq635444 hf1
        have rm635649 := rM_bd hB
        have bd635650 := rBd_c hT635514 htq635444 hf1 hB
        have rc635651 := rc_at hT635514 htq635444 hf1
        have hm635657 : q635444 ∈ P635440 := RS_m hT635514 htq635444 (by decide)
        obtain ⟨q635659, q635660, p635661, p635662, he635658, ht635678, ht635663, ht635664, ht635665, ht635666, r635667, r635668, r635669, r635670, r635671, r635672, r635673, r635674, r635675, r635676, r635677⟩ := show rk_9 γ el q635444 (F635509 q635444) from RS_o hT635514 htq635444
        have bp635661 : gB p635661 0 1000000 := ⟨by omega, by omega⟩
        have bp635662 : gB p635662 0 1000000 := ⟨by omega, by omega⟩
        have hf635679 : γ 1 q635659 = f := (show γ 1 q635659 = γ 1 q635444 from ht635664).trans hf1
        have hf635680 : γ 1 q635660 = f := (show γ 1 q635660 = γ 1 q635444 from ht635666).trans hf1
        have r635681 : γ 6 (γ 1 q635444) = γ 6 f := by rw [hf1]
        have r635682 : γ 16 (γ 1 q635444) = γ 16 f := by rw [hf1]
        refine Gw_callV (As := [.ref q635445]) (gV_ok D I) (cg_189008_Code_copy l hl0 D I γ el f fo B P635440 F635509 q635444 q635445 hT635514 htq635444 htq635445 hf1 hfo1 hne hB hBk (by omega) (by omega) (by omega)) dr_cX17_give_43 ⟨wr_10_132, wr_1_15, wr_10_135, by decide, rfl, (Nat.le_of_ble_eq_true rfl), (Nat.le_of_ble_eq_true rfl)⟩ wr_10_133 wr_10_134 hm635657 he635658 rfl (rm_gc hph pk635453) (rm_gs hph pk635453) (Nat.le_of_ble_eq_true rfl) (fun r635655 w635656 dc635652 ds635653 hp635654 => ?_) (fun _ _ _ _ _ z => z.elim)
        obtain ⟨P635687, F635688, γ, el, rfl, rfl, hk635689, ⟨hr635690, hr635691⟩, hB635692, x635683, x635684, x635685, x635686⟩ := hp635654
        have hT635693 := hk635689.1
        have hs635694 := rSk_tr hs635515 hk635689 (by decide) (by decide) (by decide)
        have kp635695 : F635688 q635442 = F635509 q635442 := rSk_F hk635689 htq635442 (by decide) (by decide)
        have r635696 := rSk_F hk635689 htq635442 (by decide) (by decide)
        have ht635697 : rKd γ q635442 10 := rSk_k hk635689 htq635442 (by decide) (by decide)
        have ht635698 : rKd γ q635444 9 := rSk_k hk635689 htq635444 (by decide) (by decide)
        have hf635699 : γ 1 q635444 = f := rSk_1 hk635689 htq635444 (by decide) hf1
        have ht635700 : rKd γ q635445 9 := rSk_kf hk635689 htq635445 (by decide) (by rw [hfo1]; exact hne)
        have hf635701 : γ 1 q635445 = fo := rSk_1 hk635689 htq635445 (by decide) hfo1
        have mk635702 : mKp (F635441 q635442) (F635688 q635442) := mKp_tr mk635513 (mKp_eq (rSk_F hk635689 htq635442 (by decide) (by decide)))
        clear r635667 r635668 r635669 r635670 r635671 r635672 r635674 r635675 r635676 r635677 bp635661 bp635662 rg635648 rm635649 bd635650 rc635651
        clear r635673
        have hph635703 : rPh γ0 el0 f ≤ rPh γ el f := rm_ph hph hr635691
        have pk635704 : rPh γ el f ≤ 387 * B + 6000 := rm_pk (rM_ge hT635693 ht635698 hf635699).1 (rM_bd hB635692)
        change G _ _ _ _ _ _ _ _ _ _ _
        refine G_widen (cs' := ((rPh γ el f - rPh γ0 el0 f) / 18)) (sl' := (rPh γ el f - rPh γ0 el0 f)) (rm_wc hph hr635690) (rm_ws hph hr635691) ?_
        have r635705 := rSk_g hs635694 hne
        have r635706 : γ 6 fo = γ0 6 fo := r635705.1
        have r635707 : γ 7 fo = γ0 7 fo := r635705.2.1
        have r635708 : γ 16 fo = γ0 16 fo := r635705.2.2.1
        have r635709 : 0 < γ 6 (γ 1 q635444) := by rw [hf635699]; omega
        refine G_aload_n 0 dr_cX17_give_46 rfl ?_
        refine G_aload_n 0 dr_cX17_give_47 rfl ?_
        have hm635710 : q635442 ∈ P635687 := RS_m hT635693 ht635697 (by decide)
        refine rk10_e (show rk_10 γ (F635688 q635442) from RS_o hT635693 ht635697) (fun q635712 q635713 p635714 p635715 p635716 p635717 p635718 p635719 p635720 p635721 p635722 p635723 p635724 p635725 p635726 p635727 p635728 he635711 hB635755 ht635729 ht635730 ht635731 ht635732 ht635733 ht635734 ht635735 ht635736 ht635737 ht635738 ht635739 ht635740 ht635741 ht635742 ht635743 ht635744 ht635745 ht635746 ht635747 ht635748 ht635749 ht635750 ht635751 ht635752 hB635756 => ?_)
        refine Gp_get 7 hm635710 he635711 dr_cX17_give_48 (gk_X17 D I) (Nat.le_of_ble_eq_true rfl) wr_7_81 rfl ?_
        rw [show γ 9 7 = q635444 from (congrFun (rSk_9 hs635694) 7).trans hvq635444]
        refine G_iload_n 1 dr_cX17_give_51 rfl ?_
        have rg635757 := rM_ge hT635693 ht635698 hf635699
        have rm635758 := rM_bd hB635692
        have bd635759 := rBd_c hT635693 ht635698 hf635699 hB635692
        have rc635760 := rc_at hT635693 ht635698 hf635699
        refine Gw_callV (As := [.ref q635444, .int p635443]) (gV_ok D I) (cg_601776_SpillForgeModel_giveAll l hl0 D I γ el f B P635687 F635688 q635442 q635444 p635443 hT635693 ht635697 ht635698 hf635699 hB635692 hBk bp635443'' (by omega) (by omega) (by omega)) dr_cX17_give_52 ⟨wr_10_148, wr_1_14, wr_10_151, by decide, rfl, (Nat.le_of_ble_eq_true rfl), (Nat.le_of_ble_eq_true rfl)⟩ wr_10_150 wr_p_92 hm635710 he635711 rfl (rm_gc hph635703 pk635704) (rm_gs hph635703 pk635704) (Nat.le_of_ble_eq_true rfl) (fun r635764 w635765 dc635761 ds635762 hp635763 => ?_) (fun _ _ _ _ _ z => z.elim)
        obtain ⟨P635769, F635770, γ, el, o635766, rfl, rfl, hk635771, ⟨hr635772, hr635773⟩, hB635774, bo635766, x635767, x635768⟩ := hp635763
        have hT635775 := hk635771.1
        have hs635776 := rSk_tr hs635694 hk635771 (by decide) (by decide) (by decide)
        have ht635777 : rKd γ q635442 10 := rSk_k hk635771 ht635697 (by decide) (by decide)
        have ht635778 : rKd γ q635444 9 := rSk_k hk635771 ht635698 (by decide) (by decide)
        have hf635779 : γ 1 q635444 = f := rSk_1 hk635771 ht635698 (by decide) hf635699
        have ht635780 : rKd γ q635445 9 := rSk_kf hk635771 ht635700 (by decide) (by rw [hf635701]; exact hne)
        have hf635781 : γ 1 q635445 = fo := rSk_1 hk635771 ht635700 (by decide) hf635701
        clear rg635757 rm635758 bd635759 rc635760
        have mk635782 : mKp (F635441 q635442) (F635770 q635442) := mKp_tr mk635702 x635768
        have hph635783 : rPh γ0 el0 f ≤ rPh γ el f := rm_ph hph635703 hr635773
        have pk635784 : rPh γ el f ≤ 387 * B + 6000 := rm_pk (rM_ge hT635775 ht635778 hf635779).1 (rM_bd hB635774)
        change G _ _ _ _ _ _ _ (.int o635766 :: _) _ _ _
        refine G_widen (cs' := ((rPh γ el f - rPh γ0 el0 f) / 18)) (sl' := (rPh γ el f - rPh γ0 el0 f)) (rm_wc hph635703 hr635772) (rm_ws hph635703 hr635773) ?_
        have r635785 := rSk_g hs635776 hne
        have r635786 : γ 6 fo = γ0 6 fo := r635785.1
        have r635787 : γ 7 fo = γ0 7 fo := r635785.2.1
        have r635788 : γ 16 fo = γ0 16 fo := r635785.2.2.1
        have r635789 : 0 < γ 6 (γ 1 q635444) := by rw [hf635779]; omega
        refine G_istore_n (L' := [(2, .int o635766), (0, .ref q635442), (1, .int p635443)]) dr_cX17_give_55 (Nat.le_of_ble_eq_true rfl) rfl ?_
        refine G_aload_n 1 dr_cX17_give_56 rfl ?_
        refine G_iload_n 0 dr_cX17_give_57 rfl ?_
        refine G_if_le 65 dr_cX17_give_58 (by decide +kernel) (fun hc635790 => ?_) (fun hc635790 => ?_)
        · have r635791 : o635766.toInt ≤ 0 := gj_le hc635790 (show Int32.toInt 0 = 0 by decide)
          have bo635766' : gB o635766 (-1) 0 := ⟨by omega, by omega⟩
          refine G_iconst 0 dr_cX17_give_65 (by decide +kernel) ?_
          have hm635792 : q635442 ∈ P635769 := RS_m hT635775 ht635777 (by decide)
          refine rk10_e (show rk_10 γ (F635770 q635442) from RS_o hT635775 ht635777) (fun q635794 q635795 p635796 p635797 p635798 p635799 p635800 p635801 p635802 p635803 p635804 p635805 p635806 p635807 p635808 p635809 p635810 he635793 hB635837 ht635811 ht635812 ht635813 ht635814 ht635815 ht635816 ht635817 ht635818 ht635819 ht635820 ht635821 ht635822 ht635823 ht635824 ht635825 ht635826 ht635827 ht635828 ht635829 ht635830 ht635831 ht635832 ht635833 ht635834 hB635838 => ?_)
          refine Gp_put 10 hm635792 he635793 dr_cX17_give_66 (gk_X17 D I) (Nat.le_of_ble_eq_true rfl) wr_7_84 rfl rfl rfl (Nat.le_of_ble_eq_true rfl) (fun F635839 e635840 n635841 => ?_)
          have he635842 : F635839 q635442 = .inr (22, [.ref (γ 9 0), .ref (γ 9 1), .ref (γ 9 2), .ref (γ 9 3), .ref (γ 9 4), .ref (γ 9 5), .ref (γ 9 6), .ref (γ 9 7), .ref (γ 9 8), .int p635796, .int 0, .int p635798, .int p635799, .int p635800, .int p635801, .ref (γ 9 15), .ref (γ 9 16), .ref (γ 9 17), .ref (γ 9 18), .ref (γ 9 19), .ref (γ 9 20), .ref (γ 9 21), .ref (γ 9 22), .int p635802, .int p635803, .int p635804, .int p635805, .int p635806, .ref q635794, .ref (γ 9 29), .int p635807, .ref (γ 9 31), .int p635808, .int p635809, .int p635810, .ref q635795]) := e635840
          have mk635843 : mKp (F635441 q635442) (F635839 q635442) := mKp_tr mk635782 (by rw [he635793, he635842]; exact ⟨rfl, rfl⟩)
          refine G_iload_n 0 dr_cX17_give_69 rfl ?_
          have hT635844 : RS D I P635769 F635839 γ el := RS_set hT635775 n635841 ht635777 (by decide) ⟨q635794, q635795, p635796, 0, p635798, p635799, p635800, p635801, p635802, p635803, p635804, p635805, p635806, p635807, p635808, p635809, p635810, he635842, ⟨(hB635837.1), (gB_w (gBl (show Int32.toInt 0 = 0 by decide)) (by decide) (by decide)), (hB635837.2.2.1), (hB635837.2.2.2.1), (hB635837.2.2.2.2.1), (hB635837.2.2.2.2.2.1), (hB635837.2.2.2.2.2.2.1), (hB635837.2.2.2.2.2.2.2.1), (hB635837.2.2.2.2.2.2.2.2)⟩, ht635811, ht635812, ht635813, ht635814, ht635815, ht635816, ht635817, ht635818, ht635819, ht635820, ht635821, ht635822, ht635823, ht635824, ht635825, ht635826, ht635827, ht635828, ht635829, ht635830, ht635831, ht635832, ht635833, ht635834, ⟨(show (_ ∨ _ ∨ _) ∧ (_ ∨ _ ∨ _) ∧ _ from hB635838).1, Or.inr (Or.inl (by have z : 0 < γ 6 f := (by omega); rw [x635446] at z; exact z)), (show (_ ∨ _ ∨ _) ∧ (_ ∨ _ ∨ _) ∧ _ from hB635838).2.2⟩⟩
          have hs635845 := rSk_put hs635776 hT635844 n635841 ht635777 (by decide) (by decide)
          have ac635846 : (fI (F635839 q635442) 9).toInt = p635796.toInt := by rw [he635842]; rfl
          have ac635847 : (fI (F635839 q635442) 10).toInt = 0 := by rw [he635842]; show Int32.toInt 0 = 0; decide
          have ac635848 : (fI (F635839 q635442) 32).toInt = p635808.toInt := by rw [he635842]; rfl
          have mq635849 : mKp _ _ := mk635782
          exact G_iretA dr_cX17_give_70 rfl (show ((rPh γ el f - rPh γ0 el0 f) / 18) ≤ (((387 * B + 6000) - rPh γ0 el0 f) / 18) by omega) (show (rPh γ el f - rPh γ0 el0 f) ≤ ((387 * B + 6000) - rPh γ0 el0 f) by omega) ⟨P635769, F635839, γ, el, o635766, rfl, rfl, hs635845, ⟨by omega, by omega⟩, hB635774, (gB_w bo635766' (by decide) (by decide)), (by omega), mk635843⟩
        · have r635850 : 0 < o635766.toInt := gj_nle hc635790 (show Int32.toInt 0 = 0 by decide)
          have bo635766' : gB o635766 1 40 := ⟨by omega, by omega⟩
          refine G_iconst 1 dr_cX17_give_61 (by decide +kernel) ?_
          refine G_goto 66 dr_cX17_give_62 (by decide +kernel) ?_
          have hm635851 : q635442 ∈ P635769 := RS_m hT635775 ht635777 (by decide)
          refine rk10_e (show rk_10 γ (F635770 q635442) from RS_o hT635775 ht635777) (fun q635853 q635854 p635855 p635856 p635857 p635858 p635859 p635860 p635861 p635862 p635863 p635864 p635865 p635866 p635867 p635868 p635869 he635852 hB635896 ht635870 ht635871 ht635872 ht635873 ht635874 ht635875 ht635876 ht635877 ht635878 ht635879 ht635880 ht635881 ht635882 ht635883 ht635884 ht635885 ht635886 ht635887 ht635888 ht635889 ht635890 ht635891 ht635892 ht635893 hB635897 => ?_)
          refine Gp_put 10 hm635851 he635852 dr_cX17_give_66 (gk_X17 D I) (Nat.le_of_ble_eq_true rfl) wr_7_84 rfl rfl rfl (Nat.le_of_ble_eq_true rfl) (fun F635898 e635899 n635900 => ?_)
          have he635901 : F635898 q635442 = .inr (22, [.ref (γ 9 0), .ref (γ 9 1), .ref (γ 9 2), .ref (γ 9 3), .ref (γ 9 4), .ref (γ 9 5), .ref (γ 9 6), .ref (γ 9 7), .ref (γ 9 8), .int p635855, .int 1, .int p635857, .int p635858, .int p635859, .int p635860, .ref (γ 9 15), .ref (γ 9 16), .ref (γ 9 17), .ref (γ 9 18), .ref (γ 9 19), .ref (γ 9 20), .ref (γ 9 21), .ref (γ 9 22), .int p635861, .int p635862, .int p635863, .int p635864, .int p635865, .ref q635853, .ref (γ 9 29), .int p635866, .ref (γ 9 31), .int p635867, .int p635868, .int p635869, .ref q635854]) := e635899
          have mk635902 : mKp (F635441 q635442) (F635898 q635442) := mKp_tr mk635782 (by rw [he635852, he635901]; exact ⟨rfl, rfl⟩)
          refine G_iload_n 0 dr_cX17_give_69 rfl ?_
          have hT635903 : RS D I P635769 F635898 γ el := RS_set hT635775 n635900 ht635777 (by decide) ⟨q635853, q635854, p635855, 1, p635857, p635858, p635859, p635860, p635861, p635862, p635863, p635864, p635865, p635866, p635867, p635868, p635869, he635901, ⟨(hB635896.1), (gB_w (gBl (show Int32.toInt 1 = 1 by decide)) (by decide) (by decide)), (hB635896.2.2.1), (hB635896.2.2.2.1), (hB635896.2.2.2.2.1), (hB635896.2.2.2.2.2.1), (hB635896.2.2.2.2.2.2.1), (hB635896.2.2.2.2.2.2.2.1), (hB635896.2.2.2.2.2.2.2.2)⟩, ht635870, ht635871, ht635872, ht635873, ht635874, ht635875, ht635876, ht635877, ht635878, ht635879, ht635880, ht635881, ht635882, ht635883, ht635884, ht635885, ht635886, ht635887, ht635888, ht635889, ht635890, ht635891, ht635892, ht635893, ⟨(show (_ ∨ _ ∨ _) ∧ (_ ∨ _ ∨ _) ∧ _ from hB635897).1, Or.inr (Or.inl (by have z : 0 < γ 6 f := (by omega); rw [x635446] at z; exact z)), (show (_ ∨ _ ∨ _) ∧ (_ ∨ _ ∨ _) ∧ _ from hB635897).2.2⟩⟩
          have hs635904 := rSk_put hs635776 hT635903 n635900 ht635777 (by decide) (by decide)
          have ac635905 : (fI (F635898 q635442) 9).toInt = p635855.toInt := by rw [he635901]; rfl
          have ac635906 : (fI (F635898 q635442) 10).toInt = 1 := by rw [he635901]; show Int32.toInt 1 = 1; decide
          have ac635907 : (fI (F635898 q635442) 32).toInt = p635867.toInt := by rw [he635901]; rfl
          have mq635908 : mKp _ _ := mk635782
          exact G_iretA dr_cX17_give_70 rfl (show ((rPh γ el f - rPh γ0 el0 f) / 18) ≤ (((387 * B + 6000) - rPh γ0 el0 f) / 18) by omega) (show (rPh γ el f - rPh γ0 el0 f) ≤ ((387 * B + 6000) - rPh γ0 el0 f) by omega) ⟨P635769, F635898, γ, el, o635766, rfl, rfl, hs635904, ⟨by omega, by omega⟩, hB635774, (gB_w bo635766' (by decide) (by decide)), (by omega), mk635902⟩
      · have r635909 : p635463.toInt = 0 := gj_eq hc635646 (show Int32.toInt 0 = 0 by decide)
        have bp635463' : gB p635463 0 0 := gB_t0 r635909
        refine G_aload_n 0 dr_cX17_give_29 rfl ?_
        refine G_iconst 2 dr_cX17_give_30 (by decide +kernel) ?_
        refine Gw_callV (As := [.int 2]) (gV_ok D I) (ct_635523_SpillForgeModel_no l hl0 D I γ el P635440 F635509 q635442 2 hT635514 htq635442) dr_cX17_give_31 ⟨wr_7_191, wr_1_14, wr_7_194, by decide, rfl, (Nat.le_of_ble_eq_true rfl), (Nat.le_of_ble_eq_true rfl)⟩ wr_7_193 wr_p_73 hm635459 he635512 rfl (rm_zc pk635453) (rm_zs pk635453) (Nat.le_of_ble_eq_true rfl) (fun r635913 w635914 dc635910 ds635911 hp635912 => ?_) (fun _ _ _ _ _ z => z.elim)
        obtain ⟨F635917, rfl, rfl, hT635918, hs635919, hdc, hds, x635915, x635916⟩ := hp635912
        have hs635920 := rSk_str hs635515 hT635918 hs635919 (by decide) (by decide) (by decide)
        have mk635921 : mKp (F635441 q635442) (F635917 q635442) := mKp_tr mk635513 x635916
        change G _ _ _ _ _ _ _ (.int 0 :: _) _ _ _
        refine G_widen (cs' := ((rPh γ el f - rPh γ0 el0 f) / 18)) (sl' := (rPh γ el f - rPh γ0 el0 f)) (rm_d0 hdc) (rm_d0 hds) ?_
        have hm635922 : q635442 ∈ P635440 := RS_m hT635918 htq635442 (by decide)
        refine rk10_e (show rk_10 γ (F635917 q635442) from RS_o hT635918 htq635442) (fun q635924 q635925 p635926 p635927 p635928 p635929 p635930 p635931 p635932 p635933 p635934 p635935 p635936 p635937 p635938 p635939 p635940 he635923 hB635967 ht635941 ht635942 ht635943 ht635944 ht635945 ht635946 ht635947 ht635948 ht635949 ht635950 ht635951 ht635952 ht635953 ht635954 ht635955 ht635956 ht635957 ht635958 ht635959 ht635960 ht635961 ht635962 ht635963 ht635964 hB635968 => ?_)
        have ac635969 : (fI (F635917 q635442) 9).toInt = p635926.toInt := by rw [he635923]; rfl
        have ac635970 : (fI (F635917 q635442) 10).toInt = p635927.toInt := by rw [he635923]; rfl
        have ac635971 : (fI (F635917 q635442) 32).toInt = p635938.toInt := by rw [he635923]; rfl
        exact G_iretA dr_cX17_give_34 rfl (show ((rPh γ el f - rPh γ0 el0 f) / 18) ≤ (((387 * B + 6000) - rPh γ0 el0 f) / 18) by omega) (show (rPh γ el f - rPh γ0 el0 f) ≤ ((387 * B + 6000) - rPh γ0 el0 f) by omega) ⟨P635440, F635917, γ, el, 0, rfl, rfl, hs635920, ⟨by omega, by omega⟩, hB, (gB_w (gBl (show Int32.toInt 0 = 0 by decide)) (by decide) (by decide)), (by have qa0 : Int32.toInt 0 = 0 := (by decide); omega), mk635921⟩
    · have r635972 : 32 < p635443.toInt := gj_nle hc635644 (show Int32.toInt 32 = 32 by decide)
      have bp635443'' : gB p635443 33 2147483647 := ⟨by omega, by omega⟩
      refine G_aload_n 0 dr_cX17_give_16 rfl ?_
      refine G_iconst 1 dr_cX17_give_17 (by decide +kernel) ?_
      refine Gw_callV (As := [.int 1]) (gV_ok D I) (ct_635523_SpillForgeModel_no l hl0 D I γ el P635440 F635509 q635442 1 hT635514 htq635442) dr_cX17_give_18 ⟨wr_7_191, wr_1_14, wr_7_194, by decide, rfl, (Nat.le_of_ble_eq_true rfl), (Nat.le_of_ble_eq_true rfl)⟩ wr_7_193 wr_p_73 hm635459 he635512 rfl (rm_zc pk635453) (rm_zs pk635453) (Nat.le_of_ble_eq_true rfl) (fun r635976 w635977 dc635973 ds635974 hp635975 => ?_) (fun _ _ _ _ _ z => z.elim)
      obtain ⟨F635980, rfl, rfl, hT635981, hs635982, hdc, hds, x635978, x635979⟩ := hp635975
      have hs635983 := rSk_str hs635515 hT635981 hs635982 (by decide) (by decide) (by decide)
      have mk635984 : mKp (F635441 q635442) (F635980 q635442) := mKp_tr mk635513 x635979
      change G _ _ _ _ _ _ _ (.int 0 :: _) _ _ _
      refine G_widen (cs' := ((rPh γ el f - rPh γ0 el0 f) / 18)) (sl' := (rPh γ el f - rPh γ0 el0 f)) (rm_d0 hdc) (rm_d0 hds) ?_
      have hm635985 : q635442 ∈ P635440 := RS_m hT635981 htq635442 (by decide)
      refine rk10_e (show rk_10 γ (F635980 q635442) from RS_o hT635981 htq635442) (fun q635987 q635988 p635989 p635990 p635991 p635992 p635993 p635994 p635995 p635996 p635997 p635998 p635999 p636000 p636001 p636002 p636003 he635986 hB636030 ht636004 ht636005 ht636006 ht636007 ht636008 ht636009 ht636010 ht636011 ht636012 ht636013 ht636014 ht636015 ht636016 ht636017 ht636018 ht636019 ht636020 ht636021 ht636022 ht636023 ht636024 ht636025 ht636026 ht636027 hB636031 => ?_)
      have ac636032 : (fI (F635980 q635442) 9).toInt = p635989.toInt := by rw [he635986]; rfl
      have ac636033 : (fI (F635980 q635442) 10).toInt = p635990.toInt := by rw [he635986]; rfl
      have ac636034 : (fI (F635980 q635442) 32).toInt = p636001.toInt := by rw [he635986]; rfl
      exact G_iretA dr_cX17_give_21 rfl (show ((rPh γ el f - rPh γ0 el0 f) / 18) ≤ (((387 * B + 6000) - rPh γ0 el0 f) / 18) by omega) (show (rPh γ el f - rPh γ0 el0 f) ≤ ((387 * B + 6000) - rPh γ0 el0 f) by omega) ⟨P635440, F635980, γ, el, 0, rfl, rfl, hs635983, ⟨by omega, by omega⟩, hB, (gB_w (gBl (show Int32.toInt 0 = 0 by decide)) (by decide) (by decide)), (by have qa0 : Int32.toInt 0 = 0 := (by decide); omega), mk635984⟩
abbrev ky_636050_SpillForgeModel_look : gKey := (cX17_look, 3, "SpillForgeModel", (some FieldType.int), [], "look", fun _ _ => True)
def pg_636050_SpillForgeModel_look (D : va_G) (I : FieldType → ClassId) (γ0 el0 : Nat → Nat → Nat) (f : Nat) (fo : Nat) (B : Nat) (P636038 : List Nat) (F636039 : Nat → va_E) (q636040 : Nat) (p636041 : Int32) (p636042 : Int32) (q636043 : Nat) (q636044 : Nat) : Option Value → va_W → Nat → Nat → Prop := fun r w dc ds => ∃ (P636594 : List Nat) (F636595 : Nat → va_E) (γ el : Nat → Nat → Nat) (o636593 : Int32), r = some (.int o636593) ∧ w = va_pl P636594 F636595 ∧ rSk f [1, 2, 3, 101, 102, 103, 202] ([1, 2, 3, 4, 5, 6, 7, 8, 9, 101, 102, 103, 202] ++ npk) D I P636038 F636039 γ0 el0 P636594 F636595 γ el ∧ (18 * dc + rPh γ0 el0 f ≤ rPh γ el f ∧ ds + rPh γ0 el0 f ≤ rPh γ el f) ∧ rBd γ el f B ∧ (fI (F636595 q636040) 10).toInt = (fI (F636039 q636040) 10).toInt ∧ mKp (F636039 q636040) (F636595 q636040)
set_option maxRecDepth 100000 in
set_option maxHeartbeats 20000000 in
theorem cg_636050_SpillForgeModel_look (l : Launch) (hl0 : l.stackTraces = false) (D : va_G) (I : FieldType → ClassId) (γ0 el0 : Nat → Nat → Nat) (f : Nat) (fo : Nat) (B : Nat) (P636038 : List Nat) (F636039 : Nat → va_E) (q636040 : Nat) (p636041 : Int32) (p636042 : Int32) (q636043 : Nat) (q636044 : Nat) (hT0 : RS D I P636038 F636039 γ0 el0) (hzq636040 : rKd γ0 q636040 10) (hzq636043 : rKd γ0 q636043 9) (hzq636044 : rKd γ0 q636044 9) (hvq636043 : γ0 9 8 = q636043) (hvq636044 : γ0 9 6 = q636044) (hf0 : γ0 1 q636043 = f) (hfo0 : γ0 1 q636044 = fo) (hne : fo ≠ f) (hB0 : rBd γ0 el0 f B) (hBk : B ≤ 100000) (x636045 : f = 2) (x636046 : fo = 0) (x636047 : ((fI (F636039 q636040) 9).toInt = 0 ∨ (0 < γ0 6 fo ∧ γ0 16 fo ≤ 160))) (x636048 : γ0 7 fo = 0) (x636049 : 2160 ≤ B) : CtA (gV D I) l yX17_look cX17_look 3 (some FieldType.int) 9 196 (((387 * B + 6000) - rPh γ0 el0 f) / 18) ((387 * B + 6000) - rPh γ0 el0 f) [.ref q636040, .int p636041, .int p636042] (va_pl P636038 F636039) (pg_636050_SpillForgeModel_look D I γ0 el0 f fo B P636038 F636039 q636040 p636041 p636042 q636043 q636044) gNA := by
  refine CtA_of hl0 (by decide) (Nat.le_of_ble_eq_true rfl) ?_
  have bp636041 := gB_any p636041
  have bp636042 := gB_any p636042
  obtain ⟨γ, hγ0⟩ : ∃ z, z = γ0 := ⟨_, rfl⟩
  obtain ⟨el, hel0⟩ : ∃ z, z = el0 := ⟨_, rfl⟩
  have hT : RS D I P636038 F636039 γ el := by rw [hγ0, hel0]; exact hT0
  have hst : rSk f [1, 2, 3, 101, 102, 103, 202] ([1, 2, 3, 4, 5, 6, 7, 8, 9, 101, 102, 103, 202] ++ npk) D I P636038 F636039 γ0 el0 P636038 F636039 γ el := by rw [hγ0, hel0]; exact rSk_rf hT0
  have hph : rPh γ0 el0 f ≤ rPh γ el f := by rw [hγ0, hel0]; exact Nat.le_refl _
  have hB : rBd γ el f B := by rw [hγ0, hel0]; exact hB0
  have htq636040 : rKd γ q636040 10 := by rw [hγ0]; exact hzq636040
  have htq636043 : rKd γ q636043 9 := by rw [hγ0]; exact hzq636043
  have htq636044 : rKd γ q636044 9 := by rw [hγ0]; exact hzq636044
  have hf1 : γ 1 q636043 = f := by rw [hγ0]; exact hf0
  have hfo1 : γ 1 q636044 = fo := by rw [hγ0]; exact hfo0
  have x636047n : ((fI (F636039 q636040) 9).toInt = 0 ∨ (0 < γ 6 fo ∧ γ 16 fo ≤ 160)) := by rw [hγ0]; exact x636047
  have x636048n : γ 7 fo = 0 := by rw [hγ0]; exact x636048
  have pk636051 : rPh γ el f ≤ 387 * B + 6000 := rm_pk (rM_ge hT htq636043 hf1).1 (rM_bd hB)
  refine G_widen (cs' := ((rPh γ el f - rPh γ0 el0 f) / 18)) (sl' := (rPh γ el f - rPh γ0 el0 f)) (Nat.zero_le _) (Nat.zero_le _) ?_
  have lz0 : Int32.toInt 0 = 0 := by decide
  have r636052 : γ 6 f = γ0 6 f := by rw [hγ0]
  have r636053 : γ 7 f = γ0 7 f := by rw [hγ0]
  have r636054 : γ 16 f = γ0 16 f := by rw [hγ0]
  have r636055 : γ 18 f = γ0 18 f := by rw [hγ0]
  have r636056 : γ 19 f = γ0 19 f := by rw [hγ0]
  have hm636057 : q636040 ∈ P636038 := RS_m hT htq636040 (by decide)
  refine rk10_e (show rk_10 γ (F636039 q636040) from RS_o hT htq636040) (fun q636059 q636060 p636061 p636062 p636063 p636064 p636065 p636066 p636067 p636068 p636069 p636070 p636071 p636072 p636073 p636074 p636075 he636058 hB636102 ht636076 ht636077 ht636078 ht636079 ht636080 ht636081 ht636082 ht636083 ht636084 ht636085 ht636086 ht636087 ht636088 ht636089 ht636090 ht636091 ht636092 ht636093 ht636094 ht636095 ht636096 ht636097 ht636098 ht636099 hB636103 => ?_)
  have ac0_9 : (fI (F636039 q636040) 9).toInt = p636061.toInt := by rw [he636058]; rfl
  have ac0_10 : (fI (F636039 q636040) 10).toInt = p636062.toInt := by rw [he636058]; rfl
  have ac0_32 : (fI (F636039 q636040) 32).toInt = p636073.toInt := by rw [he636058]; rfl
  have r636104 : γ 6 fo = γ0 6 fo := by rw [hγ0]
  have r636105 : γ 7 fo = γ0 7 fo := by rw [hγ0]
  have r636106 : γ 16 fo = γ0 16 fo := by rw [hγ0]
  refine G_aload_n 0 dr_cX17_look_0 rfl ?_
  refine G_iconst 0 dr_cX17_look_1 (by decide +kernel) ?_
  refine Gp_put 30 hm636057 he636058 dr_cX17_look_2 (gk_X17 D I) (Nat.le_of_ble_eq_true rfl) wr_7_104 rfl rfl rfl (Nat.le_of_ble_eq_true rfl) (fun F636107 e636108 n636109 => ?_)
  have he636110 : F636107 q636040 = .inr (22, [.ref (γ 9 0), .ref (γ 9 1), .ref (γ 9 2), .ref (γ 9 3), .ref (γ 9 4), .ref (γ 9 5), .ref (γ 9 6), .ref (γ 9 7), .ref (γ 9 8), .int p636061, .int p636062, .int p636063, .int p636064, .int p636065, .int p636066, .ref (γ 9 15), .ref (γ 9 16), .ref (γ 9 17), .ref (γ 9 18), .ref (γ 9 19), .ref (γ 9 20), .ref (γ 9 21), .ref (γ 9 22), .int p636067, .int p636068, .int p636069, .int p636070, .int p636071, .ref q636059, .ref (γ 9 29), .int 0, .ref (γ 9 31), .int p636073, .int p636074, .int p636075, .ref q636060]) := e636108
  have mk636111 : mKp (F636039 q636040) (F636107 q636040) := mKp_tr mKp_rf (by rw [he636058, he636110]; exact ⟨rfl, rfl⟩)
  have hT636112 : RS D I P636038 F636107 γ el := RS_set hT n636109 htq636040 (by decide) ⟨q636059, q636060, p636061, p636062, p636063, p636064, p636065, p636066, p636067, p636068, p636069, p636070, p636071, 0, p636073, p636074, p636075, he636110, ⟨(hB636102.1), (hB636102.2.1), (hB636102.2.2.1), (hB636102.2.2.2.1), (hB636102.2.2.2.2.1), (hB636102.2.2.2.2.2.1), (hB636102.2.2.2.2.2.2.1), (hB636102.2.2.2.2.2.2.2.1), (hB636102.2.2.2.2.2.2.2.2)⟩, ht636076, ht636077, ht636078, ht636079, ht636080, ht636081, ht636082, ht636083, ht636084, ht636085, ht636086, ht636087, ht636088, ht636089, ht636090, ht636091, ht636092, ht636093, ht636094, ht636095, ht636096, ht636097, ht636098, ht636099, hB636103⟩
  have hs636113 := rSk_put hst hT636112 n636109 htq636040 (by decide) (by decide)
  have ac636114 : (fI (F636107 q636040) 10).toInt = p636062.toInt := by rw [he636110]; rfl
  have r636115 : γ 6 (γ 1 q636044) = γ 6 fo := by rw [hfo1]
  refine G_aload_n 0 dr_cX17_look_5 rfl ?_
  refine Gp_get 9 hm636057 he636110 dr_cX17_look_6 (gk_X17 D I) (Nat.le_of_ble_eq_true rfl) wr_7_83 rfl ?_
  have bp636061 : gB p636061 0 1 := (hB636102.1)
  refine G_if_ne 18 dr_cX17_look_9 (by decide +kernel) (fun hc636116 => ?_) (fun hc636116 => ?_)
  · have r636117 : p636061.toInt ≠ 0 := gj_neq hc636116 (show Int32.toInt 0 = 0 by decide)
    have bp636061' : gB p636061 1 1 := gB_t1 bp636061 r636117
    refine G_iload_n 2 dr_cX17_look_18 rfl ?_
    refine G_if_lt 27 dr_cX17_look_19 (by decide +kernel) (fun hc636118 => ?_) (fun hc636118 => ?_)
    · have r636119 : p636042.toInt < 0 := gj_lt hc636118 (show Int32.toInt 0 = 0 by decide)
      have bp636042' : gB p636042 (-2147483648) (-1) := ⟨by omega, by omega⟩
      refine G_aload_n 0 dr_cX17_look_27 rfl ?_
      refine G_iconst 2 dr_cX17_look_28 (by decide +kernel) ?_
      refine Gw_callV (As := [.int 2]) (gV_ok D I) (ct_635523_SpillForgeModel_no l hl0 D I γ el P636038 F636107 q636040 2 hT636112 htq636040) dr_cX17_look_29 ⟨wr_7_191, wr_1_14, wr_7_194, by decide, rfl, (Nat.le_of_ble_eq_true rfl), (Nat.le_of_ble_eq_true rfl)⟩ wr_7_193 wr_p_73 hm636057 he636110 rfl (rm_zc pk636051) (rm_zs pk636051) (Nat.le_of_ble_eq_true rfl) (fun r636123 w636124 dc636120 ds636121 hp636122 => ?_) (fun _ _ _ _ _ z => z.elim)
      obtain ⟨F636127, rfl, rfl, hT636128, hs636129, hdc, hds, x636125, x636126⟩ := hp636122
      have hs636130 := rSk_str hs636113 hT636128 hs636129 (by decide) (by decide) (by decide)
      have mk636131 : mKp (F636039 q636040) (F636127 q636040) := mKp_tr mk636111 x636126
      change G _ _ _ _ _ _ _ (.int 0 :: _) _ _ _
      refine G_widen (cs' := ((rPh γ el f - rPh γ0 el0 f) / 18)) (sl' := (rPh γ el f - rPh γ0 el0 f)) (rm_d0 hdc) (rm_d0 hds) ?_
      exact G_iretA dr_cX17_look_32 rfl (show ((rPh γ el f - rPh γ0 el0 f) / 18) ≤ (((387 * B + 6000) - rPh γ0 el0 f) / 18) by omega) (show (rPh γ el f - rPh γ0 el0 f) ≤ ((387 * B + 6000) - rPh γ0 el0 f) by omega) ⟨P636038, F636127, γ, el, 0, rfl, rfl, hs636130, ⟨by omega, by omega⟩, hB, (by have qa0 : Int32.toInt 0 = 0 := (by decide); omega), mk636131⟩
    · have r636132 : 0 ≤ p636042.toInt := gj_nlt hc636118 (show Int32.toInt 0 = 0 by decide)
      have bp636042' : gB p636042 0 2147483647 := ⟨by omega, by omega⟩
      refine G_iload_n 2 dr_cX17_look_22 rfl ?_
      refine G_iconst 3 dr_cX17_look_23 (by decide +kernel) ?_
      refine G_icmp_le 33 dr_cX17_look_24 (by decide +kernel) (fun hc636133 => ?_) (fun hc636133 => ?_)
      · have r636134 : p636042.toInt ≤ 3 := gj_le hc636133 (show Int32.toInt 3 = 3 by decide)
        have bp636042'' : gB p636042 0 3 := ⟨by omega, by omega⟩
        refine G_iload_n 2 dr_cX17_look_33 rfl ?_
        refine G_iconst 1 dr_cX17_look_34 (by decide +kernel) ?_
        refine G_icmp_le 100 dr_cX17_look_35 (by decide +kernel) (fun hc636135 => ?_) (fun hc636135 => ?_)
        · have r636136 : p636042.toInt ≤ 1 := gj_le hc636135 (show Int32.toInt 1 = 1 by decide)
          have bp636042''' : gB p636042 0 1 := ⟨by omega, by omega⟩
          refine G_aload_n 0 dr_cX17_look_100 rfl ?_
          refine G_aload_n 0 dr_cX17_look_101 rfl ?_
          refine Gp_get 6 hm636057 he636110 dr_cX17_look_102 (gk_X17 D I) (Nat.le_of_ble_eq_true rfl) wr_7_80 rfl ?_
          rw [show γ 9 6 = q636044 from (congrFun (rSk_9 hs636113) 6).trans hvq636044]
          refine G_iconst 0 dr_cX17_look_105 (by decide +kernel) ?_
          refine Gw_callV (As := [.ref q636044, .int 0]) (gV_ok D I) (ct_269178_SpillForgeModel_graph l hl0 D I γ el P636038 F636107 q636040 q636044 0 hT636112 htq636040 htq636044 (gB_w (gBl (show Int32.toInt 0 = 0 by decide)) (by decide) (by decide)) (by omega)) dr_cX17_look_106 ⟨wr_10_233, wr_1_14, wr_10_236, by decide, rfl, (Nat.le_of_ble_eq_true rfl), (Nat.le_of_ble_eq_true rfl)⟩ wr_10_235 wr_p_99 hm636057 he636110 rfl (rm_zc pk636051) (rm_zs pk636051) (Nat.le_of_ble_eq_true rfl) (fun r636140 w636141 dc636137 ds636138 hp636139 => ?_) (fun _ _ _ _ _ z => z.elim)
          obtain ⟨F636144, rfl, rfl, hT636145, hs636146, hdc, hds, x636142, x636143⟩ := hp636139
          have hs636147 := rSk_str hs636113 hT636145 hs636146 (by decide) (by decide) (by decide)
          have kp636148 : F636144 q636040 = F636107 q636040 := x636143
          have mk636149 : mKp (F636039 q636040) (F636144 q636040) := mKp_tr mk636111 (mKp_eq x636143)
          have he636150 : F636144 q636040 = .inr (22, [.ref (γ 9 0), .ref (γ 9 1), .ref (γ 9 2), .ref (γ 9 3), .ref (γ 9 4), .ref (γ 9 5), .ref (γ 9 6), .ref (γ 9 7), .ref (γ 9 8), .int p636061, .int p636062, .int p636063, .int p636064, .int p636065, .int p636066, .ref (γ 9 15), .ref (γ 9 16), .ref (γ 9 17), .ref (γ 9 18), .ref (γ 9 19), .ref (γ 9 20), .ref (γ 9 21), .ref (γ 9 22), .int p636067, .int p636068, .int p636069, .int p636070, .int p636071, .ref q636059, .ref (γ 9 29), .int 0, .ref (γ 9 31), .int p636073, .int p636074, .int p636075, .ref q636060]) := (x636143).trans he636110
          rw [show Int32.toInt 0 = 0 from by decide] at x636142
          change G _ _ _ _ _ _ _ _ _ _ _
          refine G_widen (cs' := ((rPh γ el f - rPh γ0 el0 f) / 18)) (sl' := (rPh γ el f - rPh γ0 el0 f)) (rm_d0 hdc) (rm_d0 hds) ?_
          refine G_iload_n 1 dr_cX17_look_109 rfl ?_
          refine G_if_lt 129 dr_cX17_look_110 (by decide +kernel) (fun hc636151 => ?_) (fun hc636151 => ?_)
          · have r636152 : p636041.toInt < 0 := gj_lt hc636151 (show Int32.toInt 0 = 0 by decide)
            have bp636041' : gB p636041 (-2147483648) (-1) := ⟨by omega, by omega⟩
            have ac636153 : (fI (F636144 q636040) 10).toInt = (fI (F636107 q636040) 10).toInt := by rw [kp636148]
            refine G_aload_n 0 dr_cX17_look_129 rfl ?_
            refine G_iconst 3 dr_cX17_look_130 (by decide +kernel) ?_
            refine Gw_callV (As := [.int 3]) (gV_ok D I) (ct_635523_SpillForgeModel_no l hl0 D I γ el P636038 F636144 q636040 3 hT636145 htq636040) dr_cX17_look_131 ⟨wr_7_191, wr_1_14, wr_7_194, by decide, rfl, (Nat.le_of_ble_eq_true rfl), (Nat.le_of_ble_eq_true rfl)⟩ wr_7_193 wr_p_73 hm636057 he636150 rfl (rm_zc pk636051) (rm_zs pk636051) (Nat.le_of_ble_eq_true rfl) (fun r636157 w636158 dc636154 ds636155 hp636156 => ?_) (fun _ _ _ _ _ z => z.elim)
            obtain ⟨F636161, rfl, rfl, hT636162, hs636163, hdc, hds, x636159, x636160⟩ := hp636156
            have hs636164 := rSk_str hs636147 hT636162 hs636163 (by decide) (by decide) (by decide)
            have mk636165 : mKp (F636039 q636040) (F636161 q636040) := mKp_tr mk636149 x636160
            change G _ _ _ _ _ _ _ (.int 0 :: _) _ _ _
            refine G_widen (cs' := ((rPh γ el f - rPh γ0 el0 f) / 18)) (sl' := (rPh γ el f - rPh γ0 el0 f)) (rm_d0 hdc) (rm_d0 hds) ?_
            exact G_iretA dr_cX17_look_134 rfl (show ((rPh γ el f - rPh γ0 el0 f) / 18) ≤ (((387 * B + 6000) - rPh γ0 el0 f) / 18) by omega) (show (rPh γ el f - rPh γ0 el0 f) ≤ ((387 * B + 6000) - rPh γ0 el0 f) by omega) ⟨P636038, F636161, γ, el, 0, rfl, rfl, hs636164, ⟨by omega, by omega⟩, hB, (by have qa0 : Int32.toInt 0 = 0 := (by decide); omega), mk636165⟩
          · have r636166 : 0 ≤ p636041.toInt := gj_nlt hc636151 (show Int32.toInt 0 = 0 by decide)
            have bp636041' : gB p636041 0 2147483647 := ⟨by omega, by omega⟩
            refine G_iload_n 1 dr_cX17_look_113 rfl ?_
            refine G_sipush 2000 dr_cX17_look_114 (by decide +kernel) ?_
            refine G_icmp_ge 129 dr_cX17_look_117 (by decide +kernel) (fun hc636167 => ?_) (fun hc636167 => ?_)
            · have r636168 : 2000 ≤ p636041.toInt := gj_leL hc636167 (show Int32.toInt 2000 = 2000 by decide)
              have bp636041'' : gB p636041 2000 2147483647 := ⟨by omega, by omega⟩
              have ac636169 : (fI (F636144 q636040) 10).toInt = (fI (F636107 q636040) 10).toInt := by rw [kp636148]
              refine G_aload_n 0 dr_cX17_look_129 rfl ?_
              refine G_iconst 3 dr_cX17_look_130 (by decide +kernel) ?_
              refine Gw_callV (As := [.int 3]) (gV_ok D I) (ct_635523_SpillForgeModel_no l hl0 D I γ el P636038 F636144 q636040 3 hT636145 htq636040) dr_cX17_look_131 ⟨wr_7_191, wr_1_14, wr_7_194, by decide, rfl, (Nat.le_of_ble_eq_true rfl), (Nat.le_of_ble_eq_true rfl)⟩ wr_7_193 wr_p_73 hm636057 he636150 rfl (rm_zc pk636051) (rm_zs pk636051) (Nat.le_of_ble_eq_true rfl) (fun r636173 w636174 dc636170 ds636171 hp636172 => ?_) (fun _ _ _ _ _ z => z.elim)
              obtain ⟨F636177, rfl, rfl, hT636178, hs636179, hdc, hds, x636175, x636176⟩ := hp636172
              have hs636180 := rSk_str hs636147 hT636178 hs636179 (by decide) (by decide) (by decide)
              have mk636181 : mKp (F636039 q636040) (F636177 q636040) := mKp_tr mk636149 x636176
              change G _ _ _ _ _ _ _ (.int 0 :: _) _ _ _
              refine G_widen (cs' := ((rPh γ el f - rPh γ0 el0 f) / 18)) (sl' := (rPh γ el f - rPh γ0 el0 f)) (rm_d0 hdc) (rm_d0 hds) ?_
              exact G_iretA dr_cX17_look_134 rfl (show ((rPh γ el f - rPh γ0 el0 f) / 18) ≤ (((387 * B + 6000) - rPh γ0 el0 f) / 18) by omega) (show (rPh γ el f - rPh γ0 el0 f) ≤ ((387 * B + 6000) - rPh γ0 el0 f) by omega) ⟨P636038, F636177, γ, el, 0, rfl, rfl, hs636180, ⟨by omega, by omega⟩, hB, (by have qa0 : Int32.toInt 0 = 0 := (by decide); omega), mk636181⟩
            · have r636182 : p636041.toInt < 2000 := gj_nleL hc636167 (show Int32.toInt 2000 = 2000 by decide)
              have bp636041'' : gB p636041 0 1999 := ⟨by omega, by omega⟩
              refine G_aload_n 0 dr_cX17_look_120 rfl ?_
              refine Gp_get 3 hm636057 he636150 dr_cX17_look_121 (gk_X17 D I) (Nat.le_of_ble_eq_true rfl) wr_7_77 rfl ?_
              refine G_iload_n 1 dr_cX17_look_124 rfl ?_
              have hm636183 : (γ 9 3) ∈ P636038 := RS_m hT636145 ht636081 (by decide)
              obtain ⟨f636185, he636184, bf636185⟩ := show rk_14 I (F636144 (γ 9 3)) from RS_o hT636145 ht636081
              refine Gp_zald 3 hm636183 he636184 dr_cX17_look_125 rfl (gB_in bp636041'' (by decide) (by decide)) (G_nam fun z636186 hz636186 => ?_)
              have bz636186 : gB z636186 0 1 := by rw [hz636186]; exact bf636185 _
              refine G_if_ne 135 dr_cX17_look_126 (by decide +kernel) (fun hc636187 => ?_) (fun hc636187 => ?_)
              · have r636188 : z636186.toInt ≠ 0 := gj_neq hc636187 (show Int32.toInt 0 = 0 by decide)
                have bz636186' : gB z636186 1 1 := gB_t1 bz636186 r636188
                refine G_aload_n 0 dr_cX17_look_135 rfl ?_
                refine Gp_get 8 hm636057 he636150 dr_cX17_look_136 (gk_X17 D I) (Nat.le_of_ble_eq_true rfl) wr_7_82 rfl ?_
                rw [show γ 9 8 = q636043 from (congrFun (rSk_9 hs636147) 8).trans hvq636043]
                refine G_aload_n 0 dr_cX17_look_139 rfl ?_
                refine Gp_get 6 hm636057 he636150 dr_cX17_look_140 (gk_X17 D I) (Nat.le_of_ble_eq_true rfl) wr_7_80 rfl ?_
                rw [show γ 9 6 = q636044 from (congrFun (rSk_9 hs636147) 6).trans hvq636044]
                have rg636189 := rM_ge hT636145 htq636043 hf1
                have rm636190 := rM_bd hB
                have bd636191 := rBd_c hT636145 htq636043 hf1 hB
                have rc636192 := rc_at hT636145 htq636043 hf1
                have hm636198 : q636043 ∈ P636038 := RS_m hT636145 htq636043 (by decide)
                obtain ⟨q636200, q636201, p636202, p636203, he636199, ht636219, ht636204, ht636205, ht636206, ht636207, r636208, r636209, r636210, r636211, r636212, r636213, r636214, r636215, r636216, r636217, r636218⟩ := show rk_9 γ el q636043 (F636144 q636043) from RS_o hT636145 htq636043
                have bp636202 : gB p636202 0 1000000 := ⟨by omega, by omega⟩
                have bp636203 : gB p636203 0 1000000 := ⟨by omega, by omega⟩
                have hf636220 : γ 1 q636200 = f := (show γ 1 q636200 = γ 1 q636043 from ht636205).trans hf1
                have hf636221 : γ 1 q636201 = f := (show γ 1 q636201 = γ 1 q636043 from ht636207).trans hf1
                have r636222 : γ 6 (γ 1 q636043) = γ 6 f := by rw [hf1]
                have r636223 : γ 16 (γ 1 q636043) = γ 16 f := by rw [hf1]
                refine Gw_callV (As := [.ref q636044]) (gV_ok D I) (cg_189008_Code_copy l hl0 D I γ el f fo B P636038 F636144 q636043 q636044 hT636145 htq636043 htq636044 hf1 hfo1 hne hB hBk (by omega) (by omega) (by omega)) dr_cX17_look_143 ⟨wr_10_132, wr_1_15, wr_10_135, by decide, rfl, (Nat.le_of_ble_eq_true rfl), (Nat.le_of_ble_eq_true rfl)⟩ wr_10_133 wr_10_134 hm636198 he636199 rfl (rm_gc hph pk636051) (rm_gs hph pk636051) (Nat.le_of_ble_eq_true rfl) (fun r636196 w636197 dc636193 ds636194 hp636195 => ?_) (fun _ _ _ _ _ z => z.elim)
                obtain ⟨P636228, F636229, γ, el, rfl, rfl, hk636230, ⟨hr636231, hr636232⟩, hB636233, x636224, x636225, x636226, x636227⟩ := hp636195
                have hT636234 := hk636230.1
                have hs636235 := rSk_tr hs636147 hk636230 (by decide) (by decide) (by decide)
                have kp636236 : F636229 q636040 = F636107 q636040 := (rSk_F hk636230 htq636040 (by decide) (by decide)).trans kp636148
                have r636237 := rSk_F hk636230 htq636040 (by decide) (by decide)
                have ht636238 : rKd γ q636040 10 := rSk_k hk636230 htq636040 (by decide) (by decide)
                have ht636239 : rKd γ q636043 9 := rSk_k hk636230 htq636043 (by decide) (by decide)
                have hf636240 : γ 1 q636043 = f := rSk_1 hk636230 htq636043 (by decide) hf1
                have ht636241 : rKd γ q636044 9 := rSk_kf hk636230 htq636044 (by decide) (by rw [hfo1]; exact hne)
                have hf636242 : γ 1 q636044 = fo := rSk_1 hk636230 htq636044 (by decide) hfo1
                have mk636243 : mKp (F636039 q636040) (F636229 q636040) := mKp_tr mk636149 (mKp_eq (rSk_F hk636230 htq636040 (by decide) (by decide)))
                clear r636208 r636209 r636210 r636211 r636212 r636213 r636215 r636216 r636217 r636218 bp636202 bp636203 rg636189 rm636190 bd636191 rc636192
                clear r636214
                have hph636244 : rPh γ0 el0 f ≤ rPh γ el f := rm_ph hph hr636232
                have pk636245 : rPh γ el f ≤ 387 * B + 6000 := rm_pk (rM_ge hT636234 ht636239 hf636240).1 (rM_bd hB636233)
                change G _ _ _ _ _ _ _ _ _ _ _
                refine G_widen (cs' := ((rPh γ el f - rPh γ0 el0 f) / 18)) (sl' := (rPh γ el f - rPh γ0 el0 f)) (rm_wc hph hr636231) (rm_ws hph hr636232) ?_
                have r636246 := rSk_g hs636235 hne
                have r636247 : γ 6 fo = γ0 6 fo := r636246.1
                have r636248 : γ 7 fo = γ0 7 fo := r636246.2.1
                have r636249 : γ 16 fo = γ0 16 fo := r636246.2.2.1
                have r636250 : 0 < γ 6 (γ 1 q636043) := by rw [hf636240]; omega
                have r636251 : γ 6 (γ 1 q636044) = γ 6 fo := by rw [hf636242]
                refine G_aload_n 0 dr_cX17_look_146 rfl ?_
                refine G_aload_n 0 dr_cX17_look_147 rfl ?_
                have hm636252 : q636040 ∈ P636228 := RS_m hT636234 ht636238 (by decide)
                refine rk10_e (show rk_10 γ (F636229 q636040) from RS_o hT636234 ht636238) (fun q636254 q636255 p636256 p636257 p636258 p636259 p636260 p636261 p636262 p636263 p636264 p636265 p636266 p636267 p636268 p636269 p636270 he636253 hB636297 ht636271 ht636272 ht636273 ht636274 ht636275 ht636276 ht636277 ht636278 ht636279 ht636280 ht636281 ht636282 ht636283 ht636284 ht636285 ht636286 ht636287 ht636288 ht636289 ht636290 ht636291 ht636292 ht636293 ht636294 hB636298 => ?_)
                refine Gp_get 8 hm636252 he636253 dr_cX17_look_148 (gk_X17 D I) (Nat.le_of_ble_eq_true rfl) wr_7_82 rfl ?_
                rw [show γ 9 8 = q636043 from (congrFun (rSk_9 hs636235) 8).trans hvq636043]
                have rg636299 := rM_ge hT636234 ht636239 hf636240
                have rm636300 := rM_bd hB636233
                have bd636301 := rBd_c hT636234 ht636239 hf636240 hB636233
                have rc636302 := rc_at hT636234 ht636239 hf636240
                refine Gw_callV (As := [.ref q636043]) (gV_ok D I) (cg_355897_SpillForgeModel_zeros l hl0 D I γ el f B P636228 F636229 q636040 q636043 hT636234 ht636238 ht636239 hf636240 hB636233 hBk (by omega) (by omega)) dr_cX17_look_151 ⟨wr_10_152, wr_1_14, wr_10_155, by decide, rfl, (Nat.le_of_ble_eq_true rfl), (Nat.le_of_ble_eq_true rfl)⟩ wr_10_154 wr_p_93 hm636252 he636253 rfl (rm_gc hph636244 pk636245) (rm_gs hph636244 pk636245) (Nat.le_of_ble_eq_true rfl) (fun r636306 w636307 dc636303 ds636304 hp636305 => ?_) (fun _ _ _ _ _ z => z.elim)
                obtain ⟨P636313, F636314, γ, el, rfl, rfl, hk636315, ⟨hr636316, hr636317⟩, hB636318, x636308, x636309, x636310, x636311, x636312⟩ := hp636305
                have hT636319 := hk636315.1
                have hs636320 := rSk_tr hs636235 hk636315 (by decide) (by decide) (by decide)
                have ht636321 : rKd γ q636040 10 := rSk_k hk636315 ht636238 (by decide) (by decide)
                have ht636322 : rKd γ q636043 9 := rSk_k hk636315 ht636239 (by decide) (by decide)
                have hf636323 : γ 1 q636043 = f := rSk_1 hk636315 ht636239 (by decide) hf636240
                have ht636324 : rKd γ q636044 9 := rSk_kf hk636315 ht636241 (by decide) (by rw [hf636242]; exact hne)
                have hf636325 : γ 1 q636044 = fo := rSk_1 hk636315 ht636241 (by decide) hf636242
                clear rg636299 rm636300 bd636301 rc636302
                have mk636326 : mKp (F636039 q636040) (F636314 q636040) := mKp_tr mk636243 (mKp_eq x636312)
                have hph636327 : rPh γ0 el0 f ≤ rPh γ el f := rm_ph hph636244 hr636317
                have pk636328 : rPh γ el f ≤ 387 * B + 6000 := rm_pk (rM_ge hT636319 ht636322 hf636323).1 (rM_bd hB636318)
                change G _ _ _ _ _ _ _ _ _ _ _
                refine G_widen (cs' := ((rPh γ el f - rPh γ0 el0 f) / 18)) (sl' := (rPh γ el f - rPh γ0 el0 f)) (rm_wc hph636244 hr636316) (rm_ws hph636244 hr636317) ?_
                have r636329 := rSk_g hs636320 hne
                have r636330 : γ 6 fo = γ0 6 fo := r636329.1
                have r636331 : γ 7 fo = γ0 7 fo := r636329.2.1
                have r636332 : γ 16 fo = γ0 16 fo := r636329.2.2.1
                have r636333 : 0 < γ 6 (γ 1 q636043) := by rw [hf636323]; omega
                have r636334 : γ 6 (γ 1 q636044) = γ 6 fo := by rw [hf636325]
                refine G_aload_n 0 dr_cX17_look_154 rfl ?_
                refine G_aload_n 0 dr_cX17_look_155 rfl ?_
                have hm636335 : q636040 ∈ P636313 := RS_m hT636319 ht636321 (by decide)
                refine rk10_e (show rk_10 γ (F636314 q636040) from RS_o hT636319 ht636321) (fun q636337 q636338 p636339 p636340 p636341 p636342 p636343 p636344 p636345 p636346 p636347 p636348 p636349 p636350 p636351 p636352 p636353 he636336 hB636380 ht636354 ht636355 ht636356 ht636357 ht636358 ht636359 ht636360 ht636361 ht636362 ht636363 ht636364 ht636365 ht636366 ht636367 ht636368 ht636369 ht636370 ht636371 ht636372 ht636373 ht636374 ht636375 ht636376 ht636377 hB636381 => ?_)
                refine Gp_get 8 hm636335 he636336 dr_cX17_look_156 (gk_X17 D I) (Nat.le_of_ble_eq_true rfl) wr_7_82 rfl ?_
                rw [show γ 9 8 = q636043 from (congrFun (rSk_9 hs636320) 8).trans hvq636043]
                refine G_iconst 0 dr_cX17_look_159 (by decide +kernel) ?_
                refine Gw_callV (As := [.ref q636043, .int 0]) (gV_ok D I) (ct_269178_SpillForgeModel_graph l hl0 D I γ el P636313 F636314 q636040 q636043 0 hT636319 ht636321 ht636322 (gB_w (gBl (show Int32.toInt 0 = 0 by decide)) (by decide) (by decide)) (by omega)) dr_cX17_look_160 ⟨wr_10_233, wr_1_14, wr_10_236, by decide, rfl, (Nat.le_of_ble_eq_true rfl), (Nat.le_of_ble_eq_true rfl)⟩ wr_10_235 wr_p_99 hm636335 he636336 rfl (rm_zc pk636328) (rm_zs pk636328) (Nat.le_of_ble_eq_true rfl) (fun r636385 w636386 dc636382 ds636383 hp636384 => ?_) (fun _ _ _ _ _ z => z.elim)
                obtain ⟨F636389, rfl, rfl, hT636390, hs636391, hdc, hds, x636387, x636388⟩ := hp636384
                have hs636392 := rSk_str hs636320 hT636390 hs636391 (by decide) (by decide) (by decide)
                have kp636393 : F636389 q636040 = F636107 q636040 := (x636388).trans (x636312.trans kp636236)
                have mk636394 : mKp (F636039 q636040) (F636389 q636040) := mKp_tr mk636326 (mKp_eq x636388)
                have he636395 : F636389 q636040 = .inr (22, [.ref (γ 9 0), .ref (γ 9 1), .ref (γ 9 2), .ref (γ 9 3), .ref (γ 9 4), .ref (γ 9 5), .ref (γ 9 6), .ref (γ 9 7), .ref (γ 9 8), .int p636339, .int p636340, .int p636341, .int p636342, .int p636343, .int p636344, .ref (γ 9 15), .ref (γ 9 16), .ref (γ 9 17), .ref (γ 9 18), .ref (γ 9 19), .ref (γ 9 20), .ref (γ 9 21), .ref (γ 9 22), .int p636345, .int p636346, .int p636347, .int p636348, .int p636349, .ref q636337, .ref (γ 9 29), .int p636350, .ref (γ 9 31), .int p636351, .int p636352, .int p636353, .ref q636338]) := (x636388).trans he636336
                rw [show Int32.toInt 0 = 0 from by decide] at x636387
                change G _ _ _ _ _ _ _ _ _ _ _
                refine G_widen (cs' := ((rPh γ el f - rPh γ0 el0 f) / 18)) (sl' := (rPh γ el f - rPh γ0 el0 f)) (rm_d0 hdc) (rm_d0 hds) ?_
                refine G_aload_n 0 dr_cX17_look_163 rfl ?_
                refine G_aload_n 0 dr_cX17_look_164 rfl ?_
                refine Gp_get 8 hm636335 he636395 dr_cX17_look_165 (gk_X17 D I) (Nat.le_of_ble_eq_true rfl) wr_7_82 rfl ?_
                rw [show γ 9 8 = q636043 from (congrFun (rSk_9 hs636392) 8).trans hvq636043]
                refine Gw_callV (As := [.ref q636043]) (gV_ok D I) (ct_397402_SpillForgeModel_weigh l hl0 D I γ el P636313 F636389 q636040 q636043 hT636390 ht636321 ht636322 (by omega)) dr_cX17_look_168 ⟨wr_11_33, wr_1_14, wr_11_36, by decide, rfl, (Nat.le_of_ble_eq_true rfl), (Nat.le_of_ble_eq_true rfl)⟩ wr_11_35 wr_p_104 hm636335 he636395 rfl (rm_zc pk636328) (rm_zs pk636328) (Nat.le_of_ble_eq_true rfl) (fun r636399 w636400 dc636396 ds636397 hp636398 => ?_) (fun _ _ _ _ _ z => z.elim)
                obtain ⟨F636403, rfl, rfl, hT636404, hs636405, hdc, hds, x636401, x636402⟩ := hp636398
                have hs636406 := rSk_str hs636392 hT636404 hs636405 (by decide) (by decide) (by decide)
                have kp636407 : F636403 q636040 = F636107 q636040 := (x636401).trans kp636393
                have mk636408 : mKp (F636039 q636040) (F636403 q636040) := mKp_tr mk636394 (mKp_eq x636401)
                have he636409 : F636403 q636040 = .inr (22, [.ref (γ 9 0), .ref (γ 9 1), .ref (γ 9 2), .ref (γ 9 3), .ref (γ 9 4), .ref (γ 9 5), .ref (γ 9 6), .ref (γ 9 7), .ref (γ 9 8), .int p636339, .int p636340, .int p636341, .int p636342, .int p636343, .int p636344, .ref (γ 9 15), .ref (γ 9 16), .ref (γ 9 17), .ref (γ 9 18), .ref (γ 9 19), .ref (γ 9 20), .ref (γ 9 21), .ref (γ 9 22), .int p636345, .int p636346, .int p636347, .int p636348, .int p636349, .ref q636337, .ref (γ 9 29), .int p636350, .ref (γ 9 31), .int p636351, .int p636352, .int p636353, .ref q636338]) := (x636401).trans he636395
                change G _ _ _ _ _ _ _ _ _ _ _
                refine G_widen (cs' := ((rPh γ el f - rPh γ0 el0 f) / 18)) (sl' := (rPh γ el f - rPh γ0 el0 f)) (rm_d0 hdc) (rm_d0 hds) ?_
                refine G_iload_n 2 dr_cX17_look_171 rfl ?_
                refine G_if_ne 184 dr_cX17_look_172 (by decide +kernel) (fun hc636410 => ?_) (fun hc636410 => ?_)
                · have r636411 : p636042.toInt ≠ 0 := gj_neq hc636410 (show Int32.toInt 0 = 0 by decide)
                  have bp636042'''' : gB p636042 1 1 := gB_t1 bp636042''' r636411
                  refine G_aload_n 0 dr_cX17_look_184 rfl ?_
                  refine Gp_get 1 hm636335 he636409 dr_cX17_look_185 (gk_X17 D I) (Nat.le_of_ble_eq_true rfl) wr_7_75 rfl ?_
                  refine G_iload_n 1 dr_cX17_look_188 rfl ?_
                  have hm636412 : (γ 9 1) ∈ P636313 := RS_m hT636404 ht636357 (by decide)
                  obtain ⟨f636414, he636413, hg636415⟩ := show rk_13 I γ (F636403 (γ 9 1)) from RS_o hT636404 ht636357
                  obtain ⟨q636416, hx636418⟩ : ∃ x, x = γ 11 p636041.toInt.toNat := ⟨_, rfl⟩
                  have ht636417 : rKd γ q636416 36 := by rw [hx636418]; exact (hg636415 _ (show p636041.toInt.toNat < 2000 by omega)).2.1
                  refine Gp_aald 5 hm636412 he636413 dr_cX17_look_189 rfl rfl (gB_in bp636041'' (by decide) (by decide)) ?_
                  rw [show f636414 p636041.toNatClampNeg = some q636416 from (hg636415 _ (show p636041.toInt.toNat < 2000 by omega)).1.trans (by rw [hx636418])]
                  change G _ _ _ _ _ _ _ (.ref q636416 :: _) _ _ _
                  have hm636419 : q636416 ∈ P636313 := RS_m hT636404 ht636417 (by decide)
                  obtain ⟨f636421, he636420, wf636421⟩ := show rk_36 I (F636403 q636416) from RS_o hT636404 ht636417
                  refine Gw_callS (As := [.ref q636416]) (gV_ok D I) (cp_1892_SpillForgeModel_count l hl0 D I P636313 F636403 q636416 f636421 hm636419 he636420) dr_cX17_look_190 ⟨wr_11_16, wr_1_14, wr_11_18, by decide, rfl, (Nat.le_of_ble_eq_true rfl), (Nat.le_of_ble_eq_true rfl)⟩ wr_11_17 (rm_zc pk636328) (rm_zs pk636328) (Nat.le_of_ble_eq_true rfl) (fun r636425 w636426 dc636422 ds636423 hp636424 => ?_) (fun _ _ _ _ _ z => z.elim)
                  obtain ⟨o636427, rfl, rfl, hdc, hds⟩ := hp636424
                  have bo636427 := gB_any o636427
                  change G _ _ _ _ _ _ _ (.int o636427 :: _) _ _ _
                  refine G_widen (cs' := ((rPh γ el f - rPh γ0 el0 f) / 18)) (sl' := (rPh γ el f - rPh γ0 el0 f)) (rm_d0 hdc) (rm_d0 hds) ?_
                  have ac636428 : (fI (F636403 q636040) 10).toInt = (fI (F636107 q636040) 10).toInt := by rw [kp636407]
                  exact G_iretA dr_cX17_look_193 rfl (show ((rPh γ el f - rPh γ0 el0 f) / 18) ≤ (((387 * B + 6000) - rPh γ0 el0 f) / 18) by omega) (show (rPh γ el f - rPh γ0 el0 f) ≤ ((387 * B + 6000) - rPh γ0 el0 f) by omega) ⟨P636313, F636403, γ, el, o636427, rfl, rfl, hs636406, ⟨by omega, by omega⟩, hB636318, (by omega), mk636408⟩
                · have r636429 : p636042.toInt = 0 := gj_eq hc636410 (show Int32.toInt 0 = 0 by decide)
                  have bp636042'''' : gB p636042 0 0 := gB_t0 r636429
                  refine G_aload_n 0 dr_cX17_look_175 rfl ?_
                  refine Gp_get 5 hm636335 he636409 dr_cX17_look_176 (gk_X17 D I) (Nat.le_of_ble_eq_true rfl) wr_7_79 rfl ?_
                  refine G_iload_n 1 dr_cX17_look_179 rfl ?_
                  have hm636430 : (γ 9 5) ∈ P636313 := RS_m hT636404 ht636361 (by decide)
                  obtain ⟨f636432, he636431⟩ := show rk_17 I (F636403 (γ 9 5)) from RS_o hT636404 ht636361
                  refine Gp_iald 0 hm636430 he636431 dr_cX17_look_180 rfl (gB_in bp636041'' (by decide) (by decide)) (G_nam fun z636433 hz636433 => ?_)
                  have bz636433 : gB z636433 (-2147483648) 2147483647 := gB_any z636433
                  refine G_goto 193 dr_cX17_look_181 (by decide +kernel) ?_
                  have ac636434 : (fI (F636403 q636040) 10).toInt = (fI (F636107 q636040) 10).toInt := by rw [kp636407]
                  exact G_iretA dr_cX17_look_193 rfl (show ((rPh γ el f - rPh γ0 el0 f) / 18) ≤ (((387 * B + 6000) - rPh γ0 el0 f) / 18) by omega) (show (rPh γ el f - rPh γ0 el0 f) ≤ ((387 * B + 6000) - rPh γ0 el0 f) by omega) ⟨P636313, F636403, γ, el, z636433, rfl, rfl, hs636406, ⟨by omega, by omega⟩, hB636318, (by omega), mk636408⟩
              · have r636435 : z636186.toInt = 0 := gj_eq hc636187 (show Int32.toInt 0 = 0 by decide)
                have bz636186' : gB z636186 0 0 := gB_t0 r636435
                have ac636436 : (fI (F636144 q636040) 10).toInt = (fI (F636107 q636040) 10).toInt := by rw [kp636148]
                refine G_aload_n 0 dr_cX17_look_129 rfl ?_
                refine G_iconst 3 dr_cX17_look_130 (by decide +kernel) ?_
                refine Gw_callV (As := [.int 3]) (gV_ok D I) (ct_635523_SpillForgeModel_no l hl0 D I γ el P636038 F636144 q636040 3 hT636145 htq636040) dr_cX17_look_131 ⟨wr_7_191, wr_1_14, wr_7_194, by decide, rfl, (Nat.le_of_ble_eq_true rfl), (Nat.le_of_ble_eq_true rfl)⟩ wr_7_193 wr_p_73 hm636057 he636150 rfl (rm_zc pk636051) (rm_zs pk636051) (Nat.le_of_ble_eq_true rfl) (fun r636440 w636441 dc636437 ds636438 hp636439 => ?_) (fun _ _ _ _ _ z => z.elim)
                obtain ⟨F636444, rfl, rfl, hT636445, hs636446, hdc, hds, x636442, x636443⟩ := hp636439
                have hs636447 := rSk_str hs636147 hT636445 hs636446 (by decide) (by decide) (by decide)
                have mk636448 : mKp (F636039 q636040) (F636444 q636040) := mKp_tr mk636149 x636443
                change G _ _ _ _ _ _ _ (.int 0 :: _) _ _ _
                refine G_widen (cs' := ((rPh γ el f - rPh γ0 el0 f) / 18)) (sl' := (rPh γ el f - rPh γ0 el0 f)) (rm_d0 hdc) (rm_d0 hds) ?_
                exact G_iretA dr_cX17_look_134 rfl (show ((rPh γ el f - rPh γ0 el0 f) / 18) ≤ (((387 * B + 6000) - rPh γ0 el0 f) / 18) by omega) (show (rPh γ el f - rPh γ0 el0 f) ≤ ((387 * B + 6000) - rPh γ0 el0 f) by omega) ⟨P636038, F636444, γ, el, 0, rfl, rfl, hs636447, ⟨by omega, by omega⟩, hB, (by have qa0 : Int32.toInt 0 = 0 := (by decide); omega), mk636448⟩
        · have r636449 : 1 < p636042.toInt := gj_nle hc636135 (show Int32.toInt 1 = 1 by decide)
          have bp636042''' : gB p636042 2 3 := ⟨by omega, by omega⟩
          refine G_iload_n 1 dr_cX17_look_38 rfl ?_
          refine G_if_lt 53 dr_cX17_look_39 (by decide +kernel) (fun hc636450 => ?_) (fun hc636450 => ?_)
          · have r636451 : p636041.toInt < 0 := gj_lt hc636450 (show Int32.toInt 0 = 0 by decide)
            have bp636041' : gB p636041 (-2147483648) (-1) := ⟨by omega, by omega⟩
            refine G_aload_n 0 dr_cX17_look_53 rfl ?_
            refine G_iconst 3 dr_cX17_look_54 (by decide +kernel) ?_
            refine Gw_callV (As := [.int 3]) (gV_ok D I) (ct_635523_SpillForgeModel_no l hl0 D I γ el P636038 F636107 q636040 3 hT636112 htq636040) dr_cX17_look_55 ⟨wr_7_191, wr_1_14, wr_7_194, by decide, rfl, (Nat.le_of_ble_eq_true rfl), (Nat.le_of_ble_eq_true rfl)⟩ wr_7_193 wr_p_73 hm636057 he636110 rfl (rm_zc pk636051) (rm_zs pk636051) (Nat.le_of_ble_eq_true rfl) (fun r636455 w636456 dc636452 ds636453 hp636454 => ?_) (fun _ _ _ _ _ z => z.elim)
            obtain ⟨F636459, rfl, rfl, hT636460, hs636461, hdc, hds, x636457, x636458⟩ := hp636454
            have hs636462 := rSk_str hs636113 hT636460 hs636461 (by decide) (by decide) (by decide)
            have mk636463 : mKp (F636039 q636040) (F636459 q636040) := mKp_tr mk636111 x636458
            change G _ _ _ _ _ _ _ (.int 0 :: _) _ _ _
            refine G_widen (cs' := ((rPh γ el f - rPh γ0 el0 f) / 18)) (sl' := (rPh γ el f - rPh γ0 el0 f)) (rm_d0 hdc) (rm_d0 hds) ?_
            exact G_iretA dr_cX17_look_58 rfl (show ((rPh γ el f - rPh γ0 el0 f) / 18) ≤ (((387 * B + 6000) - rPh γ0 el0 f) / 18) by omega) (show (rPh γ el f - rPh γ0 el0 f) ≤ ((387 * B + 6000) - rPh γ0 el0 f) by omega) ⟨P636038, F636459, γ, el, 0, rfl, rfl, hs636462, ⟨by omega, by omega⟩, hB, (by have qa0 : Int32.toInt 0 = 0 := (by decide); omega), mk636463⟩
          · have r636464 : 0 ≤ p636041.toInt := gj_nlt hc636450 (show Int32.toInt 0 = 0 by decide)
            have bp636041' : gB p636041 0 2147483647 := ⟨by omega, by omega⟩
            refine G_iload_n 1 dr_cX17_look_42 rfl ?_
            refine G_aload_n 0 dr_cX17_look_43 rfl ?_
            refine Gp_get 6 hm636057 he636110 dr_cX17_look_44 (gk_X17 D I) (Nat.le_of_ble_eq_true rfl) wr_7_80 rfl ?_
            rw [show γ 9 6 = q636044 from (congrFun (rSk_9 hs636113) 6).trans hvq636044]
            have hm636465 : q636044 ∈ P636038 := RS_m hT636112 htq636044 (by decide)
            obtain ⟨q636467, q636468, p636469, p636470, he636466, ht636486, ht636471, ht636472, ht636473, ht636474, r636475, r636476, r636477, r636478, r636479, r636480, r636481, r636482, r636483, r636484, r636485⟩ := show rk_9 γ el q636044 (F636107 q636044) from RS_o hT636112 htq636044
            have bp636469 : gB p636469 0 1000000 := ⟨by omega, by omega⟩
            have bp636470 : gB p636470 0 1000000 := ⟨by omega, by omega⟩
            have hf636487 : γ 1 q636467 = fo := (show γ 1 q636467 = γ 1 q636044 from ht636472).trans hfo1
            have hf636488 : γ 1 q636468 = fo := (show γ 1 q636468 = γ 1 q636044 from ht636474).trans hfo1
            have r636489 : γ 6 (γ 1 q636044) = γ 6 fo := by rw [hfo1]
            have r636490 : γ 16 (γ 1 q636044) = γ 16 fo := by rw [hfo1]
            have r636491 : p636470.toInt = γ 6 fo ∧ p636470.toInt ≤ 40 := by omega
            clear r636481
            refine Gw_callV (As := []) (gV_ok D I) (cp_12451_Code_size l hl0 D I P636038 F636107 q636044 q636467 q636468 p636469 p636470 hm636465 he636466) dr_cX17_look_47 ⟨wr_10_160, wr_1_15, wr_9_131, by decide, rfl, (Nat.le_of_ble_eq_true rfl), (Nat.le_of_ble_eq_true rfl)⟩ wr_9_129 wr_9_130 hm636465 he636466 rfl (rm_zc pk636051) (rm_zs pk636051) (Nat.le_of_ble_eq_true rfl) (fun r636495 w636496 dc636492 ds636493 hp636494 => ?_) (fun _ _ _ _ _ z => z.elim)
            obtain ⟨rfl, rfl, hdc, hds⟩ := hp636494
            change G _ _ _ _ _ _ _ (.int p636470 :: _) _ _ _
            refine G_widen (cs' := ((rPh γ el f - rPh γ0 el0 f) / 18)) (sl' := (rPh γ el f - rPh γ0 el0 f)) (rm_d0 hdc) (rm_d0 hds) ?_
            refine G_icmp_lt 59 dr_cX17_look_50 (by decide +kernel) (fun hc636497 => ?_) (fun hc636497 => ?_)
            · have r636498 : p636041.toInt < p636470.toInt := gC_lt hc636497
              have bp636041'' : gB p636041 0 999999 := ⟨by omega, by omega⟩
              have bp636470' : gB p636470 1 1000000 := ⟨by omega, by omega⟩
              refine G_aload_n 0 dr_cX17_look_59 rfl ?_
              refine G_aload_n 0 dr_cX17_look_60 rfl ?_
              refine Gp_get 6 hm636057 he636110 dr_cX17_look_61 (gk_X17 D I) (Nat.le_of_ble_eq_true rfl) wr_7_80 rfl ?_
              rw [show γ 9 6 = q636044 from (congrFun (rSk_9 hs636113) 6).trans hvq636044]
              refine G_iconst 0 dr_cX17_look_64 (by decide +kernel) ?_
              refine Gw_callV (As := [.ref q636044, .int 0]) (gV_ok D I) (ct_217949_SpillForgeModel_findLive l hl0 D I γ el P636038 F636107 q636040 q636044 0 hT636112 htq636040 htq636044 (gB_w (gBl (show Int32.toInt 0 = 0 by decide)) (by decide) (by decide)) (by omega)) dr_cX17_look_65 ⟨wr_10_156, wr_1_14, wr_10_159, by decide, rfl, (Nat.le_of_ble_eq_true rfl), (Nat.le_of_ble_eq_true rfl)⟩ wr_10_158 wr_p_94 hm636057 he636110 rfl (rm_zc pk636051) (rm_zs pk636051) (Nat.le_of_ble_eq_true rfl) (fun r636502 w636503 dc636499 ds636500 hp636501 => ?_) (fun _ _ _ _ _ z => z.elim)
              obtain ⟨F636505, rfl, rfl, hT636506, hs636507, hdc, hds, x636504⟩ := hp636501
              have he636508 : F636505 q636044 = .inr (18, [.ref q636467, .ref q636468, .int p636469, .int p636470]) := (hs636507 q636044 (rT0 htq636044 (by decide)) (rT1 htq636044 (by decide)) (rT2 htq636044 (by decide))).trans he636466
              have hs636509 := rSk_str hs636113 hT636506 hs636507 (by decide) (by decide) (by decide)
              have kp636510 : F636505 q636040 = F636107 q636040 := x636504
              have mk636511 : mKp (F636039 q636040) (F636505 q636040) := mKp_tr mk636111 (mKp_eq x636504)
              have he636512 : F636505 q636040 = .inr (22, [.ref (γ 9 0), .ref (γ 9 1), .ref (γ 9 2), .ref (γ 9 3), .ref (γ 9 4), .ref (γ 9 5), .ref (γ 9 6), .ref (γ 9 7), .ref (γ 9 8), .int p636061, .int p636062, .int p636063, .int p636064, .int p636065, .int p636066, .ref (γ 9 15), .ref (γ 9 16), .ref (γ 9 17), .ref (γ 9 18), .ref (γ 9 19), .ref (γ 9 20), .ref (γ 9 21), .ref (γ 9 22), .int p636067, .int p636068, .int p636069, .int p636070, .int p636071, .ref q636059, .ref (γ 9 29), .int 0, .ref (γ 9 31), .int p636073, .int p636074, .int p636075, .ref q636060]) := (x636504).trans he636110
              change G _ _ _ _ _ _ _ _ _ _ _
              refine G_widen (cs' := ((rPh γ el f - rPh γ0 el0 f) / 18)) (sl' := (rPh γ el f - rPh γ0 el0 f)) (rm_d0 hdc) (rm_d0 hds) ?_
              refine G_aload_n 0 dr_cX17_look_68 rfl ?_
              refine G_aload_n 0 dr_cX17_look_69 rfl ?_
              refine Gp_get 6 hm636057 he636512 dr_cX17_look_70 (gk_X17 D I) (Nat.le_of_ble_eq_true rfl) wr_7_80 rfl ?_
              rw [show γ 9 6 = q636044 from (congrFun (rSk_9 hs636509) 6).trans hvq636044]
              refine Gw_callV (As := [.ref q636044]) (gV_ok D I) (ct_397455_SpillForgeModel_findDepth l hl0 D I γ el P636038 F636505 q636040 q636044 hT636506 htq636040 htq636044 (by omega)) dr_cX17_look_73 ⟨wr_11_37, wr_1_14, wr_11_40, by decide, rfl, (Nat.le_of_ble_eq_true rfl), (Nat.le_of_ble_eq_true rfl)⟩ wr_11_39 wr_p_105 hm636057 he636512 rfl (rm_zc pk636051) (rm_zs pk636051) (Nat.le_of_ble_eq_true rfl) (fun r636516 w636517 dc636513 ds636514 hp636515 => ?_) (fun _ _ _ _ _ z => z.elim)
              obtain ⟨F636520, rfl, rfl, hT636521, hs636522, hdc, hds, x636518, x636519⟩ := hp636515
              have he636523 : F636520 q636044 = .inr (18, [.ref q636467, .ref q636468, .int p636469, .int p636470]) := (hs636522 q636044 (rT0 htq636044 (by decide)) (rT1 htq636044 (by decide)) (rT2 htq636044 (by decide))).trans he636508
              have hs636524 := rSk_str hs636509 hT636521 hs636522 (by decide) (by decide) (by decide)
              have kp636525 : F636520 q636040 = F636107 q636040 := (x636518).trans kp636510
              have mk636526 : mKp (F636039 q636040) (F636520 q636040) := mKp_tr mk636511 (mKp_eq x636518)
              have he636527 : F636520 q636040 = .inr (22, [.ref (γ 9 0), .ref (γ 9 1), .ref (γ 9 2), .ref (γ 9 3), .ref (γ 9 4), .ref (γ 9 5), .ref (γ 9 6), .ref (γ 9 7), .ref (γ 9 8), .int p636061, .int p636062, .int p636063, .int p636064, .int p636065, .int p636066, .ref (γ 9 15), .ref (γ 9 16), .ref (γ 9 17), .ref (γ 9 18), .ref (γ 9 19), .ref (γ 9 20), .ref (γ 9 21), .ref (γ 9 22), .int p636067, .int p636068, .int p636069, .int p636070, .int p636071, .ref q636059, .ref (γ 9 29), .int 0, .ref (γ 9 31), .int p636073, .int p636074, .int p636075, .ref q636060]) := (x636518).trans he636512
              change G _ _ _ _ _ _ _ _ _ _ _
              refine G_widen (cs' := ((rPh γ el f - rPh γ0 el0 f) / 18)) (sl' := (rPh γ el f - rPh γ0 el0 f)) (rm_d0 hdc) (rm_d0 hds) ?_
              refine G_iload_n 2 dr_cX17_look_76 rfl ?_
              refine G_iconst 2 dr_cX17_look_77 (by decide +kernel) ?_
              refine G_icmp_ne 93 dr_cX17_look_78 (by decide +kernel) (fun hc636528 => ?_) (fun hc636528 => ?_)
              · have r636529 : p636042.toInt ≠ 2 := gj_neq hc636528 (show Int32.toInt 2 = 2 by decide)
                have bp636042'''' : gB p636042 3 3 := ⟨by omega, by omega⟩
                refine G_aload_n 0 dr_cX17_look_93 rfl ?_
                refine Gp_get 4 hm636057 he636527 dr_cX17_look_94 (gk_X17 D I) (Nat.le_of_ble_eq_true rfl) wr_7_78 rfl ?_
                refine G_iload_n 1 dr_cX17_look_97 rfl ?_
                have hm636530 : (γ 9 4) ∈ P636038 := RS_m hT636521 ht636082 (by decide)
                obtain ⟨f636532, he636531⟩ := show rk_16 I (F636520 (γ 9 4)) from RS_o hT636521 ht636082
                refine Gp_iald 0 hm636530 he636531 dr_cX17_look_98 rfl (gB_inr (by omega) (by omega)) (G_nam fun z636533 hz636533 => ?_)
                have bz636533 : gB z636533 (-2147483648) 2147483647 := gB_any z636533
                have ac636534 : (fI (F636520 q636040) 10).toInt = (fI (F636107 q636040) 10).toInt := by rw [kp636525]
                exact G_iretA dr_cX17_look_99 rfl (show ((rPh γ el f - rPh γ0 el0 f) / 18) ≤ (((387 * B + 6000) - rPh γ0 el0 f) / 18) by omega) (show (rPh γ el f - rPh γ0 el0 f) ≤ ((387 * B + 6000) - rPh γ0 el0 f) by omega) ⟨P636038, F636520, γ, el, z636533, rfl, rfl, hs636524, ⟨by omega, by omega⟩, hB, (by omega), mk636526⟩
              · have r636535 : p636042.toInt = 2 := gj_eq hc636528 (show Int32.toInt 2 = 2 by decide)
                have bp636042'''' : gB p636042 2 2 := ⟨by omega, by omega⟩
                refine G_aload_n 0 dr_cX17_look_81 rfl ?_
                refine Gp_get 0 hm636057 he636527 dr_cX17_look_82 (gk_X17 D I) (Nat.le_of_ble_eq_true rfl) wr_7_74 rfl ?_
                refine G_iload_n 1 dr_cX17_look_85 rfl ?_
                have hm636536 : (γ 9 0) ∈ P636038 := RS_m hT636521 ht636078 (by decide)
                obtain ⟨f636538, he636537, hg636539⟩ := show rk_12 I γ (F636520 (γ 9 0)) from RS_o hT636521 ht636078
                obtain ⟨q636540, hx636542⟩ : ∃ x, x = γ 10 p636041.toInt.toNat := ⟨_, rfl⟩
                have ht636541 : rKd γ q636540 11 := by rw [hx636542]; exact (hg636539 _ (show p636041.toInt.toNat < 40 by omega)).2.1
                refine Gp_aald 5 hm636536 he636537 dr_cX17_look_86 rfl rfl (gB_inr (by omega) (by omega)) ?_
                rw [show f636538 p636041.toNatClampNeg = some q636540 from (hg636539 _ (show p636041.toInt.toNat < 40 by omega)).1.trans (by rw [hx636542])]
                change G _ _ _ _ _ _ _ (.ref q636540 :: _) _ _ _
                have hm636543 : q636540 ∈ P636038 := RS_m hT636521 ht636541 (by decide)
                obtain ⟨f636545, he636544, wf636545⟩ := show rk_11 I (F636520 q636540) from RS_o hT636521 ht636541
                refine Gw_callS (As := [.ref q636540]) (gV_ok D I) (cp_1892_SpillForgeModel_count l hl0 D I P636038 F636520 q636540 f636545 hm636543 he636544) dr_cX17_look_87 ⟨wr_11_16, wr_1_14, wr_11_18, by decide, rfl, (Nat.le_of_ble_eq_true rfl), (Nat.le_of_ble_eq_true rfl)⟩ wr_11_17 (rm_zc pk636051) (rm_zs pk636051) (Nat.le_of_ble_eq_true rfl) (fun r636549 w636550 dc636546 ds636547 hp636548 => ?_) (fun _ _ _ _ _ z => z.elim)
                obtain ⟨o636551, rfl, rfl, hdc, hds⟩ := hp636548
                have bo636551 := gB_any o636551
                change G _ _ _ _ _ _ _ (.int o636551 :: _) _ _ _
                refine G_widen (cs' := ((rPh γ el f - rPh γ0 el0 f) / 18)) (sl' := (rPh γ el f - rPh γ0 el0 f)) (rm_d0 hdc) (rm_d0 hds) ?_
                refine G_goto 99 dr_cX17_look_90 (by decide +kernel) ?_
                have ac636552 : (fI (F636520 q636040) 10).toInt = (fI (F636107 q636040) 10).toInt := by rw [kp636525]
                exact G_iretA dr_cX17_look_99 rfl (show ((rPh γ el f - rPh γ0 el0 f) / 18) ≤ (((387 * B + 6000) - rPh γ0 el0 f) / 18) by omega) (show (rPh γ el f - rPh γ0 el0 f) ≤ ((387 * B + 6000) - rPh γ0 el0 f) by omega) ⟨P636038, F636520, γ, el, o636551, rfl, rfl, hs636524, ⟨by omega, by omega⟩, hB, (by omega), mk636526⟩
            · have r636553 : p636470.toInt ≤ p636041.toInt := gC_nlt hc636497
              refine G_aload_n 0 dr_cX17_look_53 rfl ?_
              refine G_iconst 3 dr_cX17_look_54 (by decide +kernel) ?_
              refine Gw_callV (As := [.int 3]) (gV_ok D I) (ct_635523_SpillForgeModel_no l hl0 D I γ el P636038 F636107 q636040 3 hT636112 htq636040) dr_cX17_look_55 ⟨wr_7_191, wr_1_14, wr_7_194, by decide, rfl, (Nat.le_of_ble_eq_true rfl), (Nat.le_of_ble_eq_true rfl)⟩ wr_7_193 wr_p_73 hm636057 he636110 rfl (rm_zc pk636051) (rm_zs pk636051) (Nat.le_of_ble_eq_true rfl) (fun r636557 w636558 dc636554 ds636555 hp636556 => ?_) (fun _ _ _ _ _ z => z.elim)
              obtain ⟨F636561, rfl, rfl, hT636562, hs636563, hdc, hds, x636559, x636560⟩ := hp636556
              have he636564 : F636561 q636044 = .inr (18, [.ref q636467, .ref q636468, .int p636469, .int p636470]) := (hs636563 q636044 (rT0 htq636044 (by decide)) (rT1 htq636044 (by decide)) (rT2 htq636044 (by decide))).trans he636466
              have hs636565 := rSk_str hs636113 hT636562 hs636563 (by decide) (by decide) (by decide)
              have mk636566 : mKp (F636039 q636040) (F636561 q636040) := mKp_tr mk636111 x636560
              change G _ _ _ _ _ _ _ (.int 0 :: _) _ _ _
              refine G_widen (cs' := ((rPh γ el f - rPh γ0 el0 f) / 18)) (sl' := (rPh γ el f - rPh γ0 el0 f)) (rm_d0 hdc) (rm_d0 hds) ?_
              exact G_iretA dr_cX17_look_58 rfl (show ((rPh γ el f - rPh γ0 el0 f) / 18) ≤ (((387 * B + 6000) - rPh γ0 el0 f) / 18) by omega) (show (rPh γ el f - rPh γ0 el0 f) ≤ ((387 * B + 6000) - rPh γ0 el0 f) by omega) ⟨P636038, F636561, γ, el, 0, rfl, rfl, hs636565, ⟨by omega, by omega⟩, hB, (by have qa0 : Int32.toInt 0 = 0 := (by decide); omega), mk636566⟩
      · have r636567 : 3 < p636042.toInt := gj_nle hc636133 (show Int32.toInt 3 = 3 by decide)
        have bp636042'' : gB p636042 4 2147483647 := ⟨by omega, by omega⟩
        refine G_aload_n 0 dr_cX17_look_27 rfl ?_
        refine G_iconst 2 dr_cX17_look_28 (by decide +kernel) ?_
        refine Gw_callV (As := [.int 2]) (gV_ok D I) (ct_635523_SpillForgeModel_no l hl0 D I γ el P636038 F636107 q636040 2 hT636112 htq636040) dr_cX17_look_29 ⟨wr_7_191, wr_1_14, wr_7_194, by decide, rfl, (Nat.le_of_ble_eq_true rfl), (Nat.le_of_ble_eq_true rfl)⟩ wr_7_193 wr_p_73 hm636057 he636110 rfl (rm_zc pk636051) (rm_zs pk636051) (Nat.le_of_ble_eq_true rfl) (fun r636571 w636572 dc636568 ds636569 hp636570 => ?_) (fun _ _ _ _ _ z => z.elim)
        obtain ⟨F636575, rfl, rfl, hT636576, hs636577, hdc, hds, x636573, x636574⟩ := hp636570
        have hs636578 := rSk_str hs636113 hT636576 hs636577 (by decide) (by decide) (by decide)
        have mk636579 : mKp (F636039 q636040) (F636575 q636040) := mKp_tr mk636111 x636574
        change G _ _ _ _ _ _ _ (.int 0 :: _) _ _ _
        refine G_widen (cs' := ((rPh γ el f - rPh γ0 el0 f) / 18)) (sl' := (rPh γ el f - rPh γ0 el0 f)) (rm_d0 hdc) (rm_d0 hds) ?_
        exact G_iretA dr_cX17_look_32 rfl (show ((rPh γ el f - rPh γ0 el0 f) / 18) ≤ (((387 * B + 6000) - rPh γ0 el0 f) / 18) by omega) (show (rPh γ el f - rPh γ0 el0 f) ≤ ((387 * B + 6000) - rPh γ0 el0 f) by omega) ⟨P636038, F636575, γ, el, 0, rfl, rfl, hs636578, ⟨by omega, by omega⟩, hB, (by have qa0 : Int32.toInt 0 = 0 := (by decide); omega), mk636579⟩
  · have r636580 : p636061.toInt = 0 := gj_eq hc636116 (show Int32.toInt 0 = 0 by decide)
    have bp636061' : gB p636061 0 0 := gB_t0 r636580
    refine G_aload_n 0 dr_cX17_look_12 rfl ?_
    refine G_iconst 1 dr_cX17_look_13 (by decide +kernel) ?_
    refine Gw_callV (As := [.int 1]) (gV_ok D I) (ct_635523_SpillForgeModel_no l hl0 D I γ el P636038 F636107 q636040 1 hT636112 htq636040) dr_cX17_look_14 ⟨wr_7_191, wr_1_14, wr_7_194, by decide, rfl, (Nat.le_of_ble_eq_true rfl), (Nat.le_of_ble_eq_true rfl)⟩ wr_7_193 wr_p_73 hm636057 he636110 rfl (rm_zc pk636051) (rm_zs pk636051) (Nat.le_of_ble_eq_true rfl) (fun r636584 w636585 dc636581 ds636582 hp636583 => ?_) (fun _ _ _ _ _ z => z.elim)
    obtain ⟨F636588, rfl, rfl, hT636589, hs636590, hdc, hds, x636586, x636587⟩ := hp636583
    have hs636591 := rSk_str hs636113 hT636589 hs636590 (by decide) (by decide) (by decide)
    have mk636592 : mKp (F636039 q636040) (F636588 q636040) := mKp_tr mk636111 x636587
    change G _ _ _ _ _ _ _ (.int 0 :: _) _ _ _
    refine G_widen (cs' := ((rPh γ el f - rPh γ0 el0 f) / 18)) (sl' := (rPh γ el f - rPh γ0 el0 f)) (rm_d0 hdc) (rm_d0 hds) ?_
    exact G_iretA dr_cX17_look_17 rfl (show ((rPh γ el f - rPh γ0 el0 f) / 18) ≤ (((387 * B + 6000) - rPh γ0 el0 f) / 18) by omega) (show (rPh γ el f - rPh γ0 el0 f) ≤ ((387 * B + 6000) - rPh γ0 el0 f) by omega) ⟨P636038, F636588, γ, el, 0, rfl, rfl, hs636591, ⟨by omega, by omega⟩, hB, (by have qa0 : Int32.toInt 0 = 0 := (by decide); omega), mk636592⟩
