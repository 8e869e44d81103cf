theorem dr_cX17_word__0 : decode cX17_word_ 0 = .ok (.aload_n 0, 1) := by decide +kernel
theorem dr_cX17_word__1 : decode cX17_word_ 1 = .ok (.iconst 0, 1) := by decide +kernel
theorem dr_cX17_word__2 : decode cX17_word_ 2 = .ok (.putfield 380, 3) := by decide +kernel
theorem dr_cX17_word__5 : decode cX17_word_ 5 = .ok (.iload_n 1, 1) := by decide +kernel
theorem dr_cX17_word__6 : decode cX17_word_ 6 = .ok (.ifCond .lt 11, 3) := by decide +kernel
theorem dr_cX17_word__17 : decode cX17_word_ 17 = .ok (.aload_n 0, 1) := by decide +kernel
theorem dr_cX17_word__18 : decode cX17_word_ 18 = .ok (.iconst 1, 1) := by decide +kernel
theorem dr_cX17_word__19 : decode cX17_word_ 19 = .ok (.invokevirtual 385, 3) := by decide +kernel
theorem dr_cX17_word__22 : decode cX17_word_ 22 = .ok (.i2l, 1) := by decide +kernel
theorem dr_cX17_word__23 : decode cX17_word_ 23 = .ok (.lreturn, 1) := by decide +kernel
theorem dr_cX17_word__9 : decode cX17_word_ 9 = .ok (.iload_n 1, 1) := by decide +kernel
theorem dr_cX17_word__10 : decode cX17_word_ 10 = .ok (.aload_n 0, 1) := by decide +kernel
theorem dr_cX17_word__11 : decode cX17_word_ 11 = .ok (.getfield 426, 3) := by decide +kernel
theorem dr_cX17_word__14 : decode cX17_word_ 14 = .ok (.if_icmp .lt 10, 3) := by decide +kernel
theorem dr_cX17_word__24 : decode cX17_word_ 24 = .ok (.lconst 0, 1) := by decide +kernel
theorem dr_cX17_word__25 : decode cX17_word_ 25 = .ok (.lstore_n 2, 1) := by decide +kernel
theorem dr_cX17_word__26 : decode cX17_word_ 26 = .ok (.iconst 0, 1) := by decide +kernel
theorem dr_cX17_word__27 : decode cX17_word_ 27 = .ok (.istore 4, 2) := by decide +kernel
theorem dr_cX17_word__29 : decode cX17_word_ 29 = .ok (.iload 4, 2) := by decide +kernel
theorem dr_cX17_word__31 : decode cX17_word_ 31 = .ok (.bipush 8, 2) := by decide +kernel
theorem dr_cX17_word__33 : decode cX17_word_ 33 = .ok (.if_icmp .ge 44, 3) := by decide +kernel
theorem dr_cX17_word__77 : decode cX17_word_ 77 = .ok (.lload_n 2, 1) := by decide +kernel
theorem dr_cX17_word__78 : decode cX17_word_ 78 = .ok (.lreturn, 1) := by decide +kernel
theorem dr_cX17_word__36 : decode cX17_word_ 36 = .ok (.lload_n 2, 1) := by decide +kernel
theorem dr_cX17_word__37 : decode cX17_word_ 37 = .ok (.bipush 8, 2) := by decide +kernel
theorem dr_cX17_word__39 : decode cX17_word_ 39 = .ok (.lshl, 1) := by decide +kernel
theorem dr_cX17_word__40 : decode cX17_word_ 40 = .ok (.iload_n 1, 1) := by decide +kernel
theorem dr_cX17_word__41 : decode cX17_word_ 41 = .ok (.iload 4, 2) := by decide +kernel
theorem dr_cX17_word__43 : decode cX17_word_ 43 = .ok (.iadd, 1) := by decide +kernel
theorem dr_cX17_word__44 : decode cX17_word_ 44 = .ok (.aload_n 0, 1) := by decide +kernel
theorem dr_cX17_word__45 : decode cX17_word_ 45 = .ok (.getfield 426, 3) := by decide +kernel
theorem dr_cX17_word__48 : decode cX17_word_ 48 = .ok (.if_icmp .ge 19, 3) := by decide +kernel
theorem dr_cX17_word__67 : decode cX17_word_ 67 = .ok (.iconst 0, 1) := by decide +kernel
theorem dr_cX17_word__68 : decode cX17_word_ 68 = .ok (.i2l, 1) := by decide +kernel
theorem dr_cX17_word__69 : decode cX17_word_ 69 = .ok (.lor, 1) := by decide +kernel
theorem dr_cX17_word__70 : decode cX17_word_ 70 = .ok (.lstore_n 2, 1) := by decide +kernel
theorem dr_cX17_word__71 : decode cX17_word_ 71 = .ok (.iinc 4 1, 3) := by decide +kernel
theorem dr_cX17_word__74 : decode cX17_word_ 74 = .ok (.goto (-45), 3) := by decide +kernel
theorem dr_cX17_word__51 : decode cX17_word_ 51 = .ok (.aload_n 0, 1) := by decide +kernel
theorem dr_cX17_word__52 : decode cX17_word_ 52 = .ok (.getfield 378, 3) := by decide +kernel
theorem wr_7_109 : (Jvm.Cond.fieldLink "SpillForgeModel" (378 : Nat) "SpillForgeModel" "result" "[B") ∈ gw := gw_7 109 rfl rfl
theorem dr_cX17_word__55 : decode cX17_word_ 55 = .ok (.iload_n 1, 1) := by decide +kernel
theorem dr_cX17_word__56 : decode cX17_word_ 56 = .ok (.iload 4, 2) := by decide +kernel
theorem dr_cX17_word__58 : decode cX17_word_ 58 = .ok (.iadd, 1) := by decide +kernel
theorem dr_cX17_word__59 : decode cX17_word_ 59 = .ok (.baload, 1) := by decide +kernel
theorem dr_cX17_word__60 : decode cX17_word_ 60 = .ok (.sipush 255, 3) := by decide +kernel
theorem dr_cX17_word__63 : decode cX17_word_ 63 = .ok (.iand, 1) := by decide +kernel
theorem dr_cX17_word__64 : decode cX17_word_ 64 = .ok (.goto 4, 3) := by decide +kernel
theorem dr_cX17_look_0 : decode cX17_look 0 = .ok (.aload_n 0, 1) := by decide +kernel
theorem dr_cX17_look_1 : decode cX17_look 1 = .ok (.iconst 0, 1) := by decide +kernel
theorem dr_cX17_look_2 : decode cX17_look 2 = .ok (.putfield 380, 3) := by decide +kernel
theorem dr_cX17_look_5 : decode cX17_look 5 = .ok (.aload_n 0, 1) := by decide +kernel
theorem dr_cX17_look_6 : decode cX17_look 6 = .ok (.getfield 414, 3) := by decide +kernel
theorem dr_cX17_look_9 : decode cX17_look 9 = .ok (.ifCond .ne 9, 3) := by decide +kernel
theorem dr_cX17_look_18 : decode cX17_look 18 = .ok (.iload_n 2, 1) := by decide +kernel
theorem dr_cX17_look_19 : decode cX17_look 19 = .ok (.ifCond .lt 8, 3) := by decide +kernel
theorem dr_cX17_look_27 : decode cX17_look 27 = .ok (.aload_n 0, 1) := by decide +kernel
theorem dr_cX17_look_28 : decode cX17_look 28 = .ok (.iconst 2, 1) := by decide +kernel
theorem dr_cX17_look_29 : decode cX17_look 29 = .ok (.invokevirtual 385, 3) := by decide +kernel
theorem dr_cX17_look_32 : decode cX17_look 32 = .ok (.ireturn, 1) := by decide +kernel
theorem dr_cX17_look_22 : decode cX17_look 22 = .ok (.iload_n 2, 1) := by decide +kernel
theorem dr_cX17_look_23 : decode cX17_look 23 = .ok (.iconst 3, 1) := by decide +kernel
theorem dr_cX17_look_24 : decode cX17_look 24 = .ok (.if_icmp .le 9, 3) := by decide +kernel
theorem dr_cX17_look_33 : decode cX17_look 33 = .ok (.iload_n 2, 1) := by decide +kernel
theorem dr_cX17_look_34 : decode cX17_look 34 = .ok (.iconst 1, 1) := by decide +kernel
theorem dr_cX17_look_35 : decode cX17_look 35 = .ok (.if_icmp .le 65, 3) := by decide +kernel
theorem dr_cX17_look_100 : decode cX17_look 100 = .ok (.aload_n 0, 1) := by decide +kernel
theorem dr_cX17_look_101 : decode cX17_look 101 = .ok (.aload_n 0, 1) := by decide +kernel
theorem dr_cX17_look_102 : decode cX17_look 102 = .ok (.getfield 361, 3) := by decide +kernel
theorem dr_cX17_look_105 : decode cX17_look 105 = .ok (.iconst 0, 1) := by decide +kernel
theorem dr_cX17_look_106 : decode cX17_look 106 = .ok (.invokevirtual 243, 3) := by decide +kernel
theorem dr_cX17_look_109 : decode cX17_look 109 = .ok (.iload_n 1, 1) := by decide +kernel
theorem dr_cX17_look_110 : decode cX17_look 110 = .ok (.ifCond .lt 19, 3) := by decide +kernel
theorem dr_cX17_look_129 : decode cX17_look 129 = .ok (.aload_n 0, 1) := by decide +kernel
theorem dr_cX17_look_130 : decode cX17_look 130 = .ok (.iconst 3, 1) := by decide +kernel
theorem dr_cX17_look_131 : decode cX17_look 131 = .ok (.invokevirtual 385, 3) := by decide +kernel
theorem dr_cX17_look_134 : decode cX17_look 134 = .ok (.ireturn, 1) := by decide +kernel
theorem dr_cX17_look_113 : decode cX17_look 113 = .ok (.iload_n 1, 1) := by decide +kernel
theorem dr_cX17_look_114 : decode cX17_look 114 = .ok (.sipush 2000, 3) := by decide +kernel
theorem dr_cX17_look_117 : decode cX17_look 117 = .ok (.if_icmp .ge 12, 3) := by decide +kernel
theorem dr_cX17_look_120 : decode cX17_look 120 = .ok (.aload_n 0, 1) := by decide +kernel
theorem dr_cX17_look_121 : decode cX17_look 121 = .ok (.getfield 131, 3) := by decide +kernel
theorem dr_cX17_look_124 : decode cX17_look 124 = .ok (.iload_n 1, 1) := by decide +kernel
theorem dr_cX17_look_125 : decode cX17_look 125 = .ok (.baload, 1) := by decide +kernel
theorem dr_cX17_look_126 : decode cX17_look 126 = .ok (.ifCond .ne 9, 3) := by decide +kernel
theorem dr_cX17_look_135 : decode cX17_look 135 = .ok (.aload_n 0, 1) := by decide +kernel
theorem dr_cX17_look_136 : decode cX17_look 136 = .ok (.getfield 368, 3) := by decide +kernel
theorem wr_7_82 : (Jvm.Cond.fieldLink "SpillForgeModel" (368 : Nat) "SpillForgeModel" "spare" "LSpillForgeModel$Code;") ∈ gw := gw_7 82 rfl rfl
theorem dr_cX17_look_139 : decode cX17_look 139 = .ok (.aload_n 0, 1) := by decide +kernel
theorem dr_cX17_look_140 : decode cX17_look 140 = .ok (.getfield 361, 3) := by decide +kernel
theorem dr_cX17_look_143 : decode cX17_look 143 = .ok (.invokevirtual 419, 3) := by decide +kernel
theorem wr_10_132 : (Jvm.Cond.methodLink "SpillForgeModel" (419 : Nat) ({ cls := "SpillForgeModel$Code", name := "copy", desc := "(LSpillForgeModel$Code;)V" } : Jvm.MethodName)) ∈ gw := gw_10 132 rfl rfl
theorem wr_10_135 : (Jvm.Cond.code ({ cls := "SpillForgeModel$Code", name := "copy", desc := "(LSpillForgeModel$Code;)V" } : Jvm.MethodName) prog_16_method_9_code (7 : Nat) (Option.none : Option Jvm.ClassFile.FieldType)) ∈ gw := gw_10 135 rfl rfl
theorem wr_10_133 : (Jvm.Cond.instanceMethod ({ cls := "SpillForgeModel$Code", name := "copy", desc := "(LSpillForgeModel$Code;)V" } : Jvm.MethodName)) ∈ gw := gw_10 133 rfl rfl
theorem wr_10_134 : (Jvm.Cond.selects "SpillForgeModel$Code" ({ cls := "SpillForgeModel$Code", name := "copy", desc := "(LSpillForgeModel$Code;)V" } : Jvm.MethodName) ({ cls := "SpillForgeModel$Code", name := "copy", desc := "(LSpillForgeModel$Code;)V" } : Jvm.MethodName)) ∈ gw := gw_10 134 rfl rfl
theorem dr_cX17_look_146 : decode cX17_look 146 = .ok (.aload_n 0, 1) := by decide +kernel
theorem dr_cX17_look_147 : decode cX17_look 147 = .ok (.aload_n 0, 1) := by decide +kernel
theorem dr_cX17_look_148 : decode cX17_look 148 = .ok (.getfield 368, 3) := by decide +kernel
theorem dr_cX17_look_151 : decode cX17_look 151 = .ok (.invokevirtual 240, 3) := by decide +kernel
theorem wr_10_152 : (Jvm.Cond.methodLink "SpillForgeModel" (240 : Nat) ({ cls := "SpillForgeModel", name := "zeros", desc := "(LSpillForgeModel$Code;)V" } : Jvm.MethodName)) ∈ gw := gw_10 152 rfl rfl
theorem wr_10_155 : (Jvm.Cond.code ({ cls := "SpillForgeModel", name := "zeros", desc := "(LSpillForgeModel$Code;)V" } : Jvm.MethodName) prog_14_method_16_code (5 : Nat) (Option.none : Option Jvm.ClassFile.FieldType)) ∈ gw := gw_10 155 rfl rfl
theorem wr_10_154 : (Jvm.Cond.instanceMethod ({ cls := "SpillForgeModel", name := "zeros", desc := "(LSpillForgeModel$Code;)V" } : Jvm.MethodName)) ∈ gw := gw_10 154 rfl rfl
theorem wr_p_93 : Cond.selects "SpillForgeModel" ⟨"SpillForgeModel", "zeros", "(LSpillForgeModel$Code;)V"⟩ ⟨"SpillForgeModel", "zeros", "(LSpillForgeModel$Code;)V"⟩ ∈ gw := gw_p _ 93 rfl rfl rfl
theorem dr_cX17_look_154 : decode cX17_look 154 = .ok (.aload_n 0, 1) := by decide +kernel
theorem dr_cX17_look_155 : decode cX17_look 155 = .ok (.aload_n 0, 1) := by decide +kernel
theorem dr_cX17_look_156 : decode cX17_look 156 = .ok (.getfield 368, 3) := by decide +kernel
theorem dr_cX17_look_159 : decode cX17_look 159 = .ok (.iconst 0, 1) := by decide +kernel
theorem dr_cX17_look_160 : decode cX17_look 160 = .ok (.invokevirtual 243, 3) := by decide +kernel
theorem dr_cX17_look_163 : decode cX17_look 163 = .ok (.aload_n 0, 1) := by decide +kernel
theorem dr_cX17_look_164 : decode cX17_look 164 = .ok (.aload_n 0, 1) := by decide +kernel
theorem dr_cX17_look_165 : decode cX17_look 165 = .ok (.getfield 368, 3) := by decide +kernel
theorem dr_cX17_look_168 : decode cX17_look 168 = .ok (.invokevirtual 250, 3) := by decide +kernel
theorem wr_11_33 : (Jvm.Cond.methodLink "SpillForgeModel" (250 : Nat) ({ cls := "SpillForgeModel", name := "weigh", desc := "(LSpillForgeModel$Code;)V" } : Jvm.MethodName)) ∈ gw := gw_11 33 rfl rfl
theorem wr_11_36 : (Jvm.Cond.code ({ cls := "SpillForgeModel", name := "weigh", desc := "(LSpillForgeModel$Code;)V" } : Jvm.MethodName) prog_14_method_15_code (7 : Nat) (Option.none : Option Jvm.ClassFile.FieldType)) ∈ gw := gw_11 36 rfl rfl
theorem wr_11_35 : (Jvm.Cond.instanceMethod ({ cls := "SpillForgeModel", name := "weigh", desc := "(LSpillForgeModel$Code;)V" } : Jvm.MethodName)) ∈ gw := gw_11 35 rfl rfl
theorem wr_p_104 : Cond.selects "SpillForgeModel" ⟨"SpillForgeModel", "weigh", "(LSpillForgeModel$Code;)V"⟩ ⟨"SpillForgeModel", "weigh", "(LSpillForgeModel$Code;)V"⟩ ∈ gw := gw_p _ 104 rfl rfl rfl
theorem dr_cX17_look_171 : decode cX17_look 171 = .ok (.iload_n 2, 1) := by decide +kernel
theorem dr_cX17_look_172 : decode cX17_look 172 = .ok (.ifCond .ne 12, 3) := by decide +kernel
theorem dr_cX17_look_184 : decode cX17_look 184 = .ok (.aload_n 0, 1) := by decide +kernel
theorem dr_cX17_look_185 : decode cX17_look 185 = .ok (.getfield 135, 3) := by decide +kernel
theorem dr_cX17_look_188 : decode cX17_look 188 = .ok (.iload_n 1, 1) := by decide +kernel
theorem dr_cX17_look_189 : decode cX17_look 189 = .ok (.aaload, 1) := by decide +kernel
theorem dr_cX17_look_190 : decode cX17_look 190 = .ok (.invokestatic 202, 3) := by decide +kernel
theorem dr_cX17_look_193 : decode cX17_look 193 = .ok (.ireturn, 1) := by decide +kernel
theorem dr_cX17_look_175 : decode cX17_look 175 = .ok (.aload_n 0, 1) := by decide +kernel
theorem dr_cX17_look_176 : decode cX17_look 176 = .ok (.getfield 174, 3) := by decide +kernel
theorem dr_cX17_look_179 : decode cX17_look 179 = .ok (.iload_n 1, 1) := by decide +kernel
theorem dr_cX17_look_180 : decode cX17_look 180 = .ok (.iaload, 1) := by decide +kernel
theorem dr_cX17_look_181 : decode cX17_look 181 = .ok (.goto 12, 3) := by decide +kernel
theorem dr_cX17_look_38 : decode cX17_look 38 = .ok (.iload_n 1, 1) := by decide +kernel
theorem dr_cX17_look_39 : decode cX17_look 39 = .ok (.ifCond .lt 14, 3) := by decide +kernel
theorem dr_cX17_look_53 : decode cX17_look 53 = .ok (.aload_n 0, 1) := by decide +kernel
theorem dr_cX17_look_54 : decode cX17_look 54 = .ok (.iconst 3, 1) := by decide +kernel
theorem dr_cX17_look_55 : decode cX17_look 55 = .ok (.invokevirtual 385, 3) := by decide +kernel
theorem dr_cX17_look_58 : decode cX17_look 58 = .ok (.ireturn, 1) := by decide +kernel
theorem dr_cX17_look_42 : decode cX17_look 42 = .ok (.iload_n 1, 1) := by decide +kernel
theorem dr_cX17_look_43 : decode cX17_look 43 = .ok (.aload_n 0, 1) := by decide +kernel
theorem dr_cX17_look_44 : decode cX17_look 44 = .ok (.getfield 361, 3) := by decide +kernel
theorem dr_cX17_look_47 : decode cX17_look 47 = .ok (.invokevirtual 96, 3) := by decide +kernel
theorem dr_cX17_look_50 : decode cX17_look 50 = .ok (.if_icmp .lt 9, 3) := by decide +kernel
theorem dr_cX17_look_59 : decode cX17_look 59 = .ok (.aload_n 0, 1) := by decide +kernel
theorem dr_cX17_look_60 : decode cX17_look 60 = .ok (.aload_n 0, 1) := by decide +kernel
theorem dr_cX17_look_61 : decode cX17_look 61 = .ok (.getfield 361, 3) := by decide +kernel
theorem dr_cX17_look_64 : decode cX17_look 64 = .ok (.iconst 0, 1) := by decide +kernel
theorem dr_cX17_look_65 : decode cX17_look 65 = .ok (.invokevirtual 127, 3) := by decide +kernel
theorem dr_cX17_look_68 : decode cX17_look 68 = .ok (.aload_n 0, 1) := by decide +kernel
theorem dr_cX17_look_69 : decode cX17_look 69 = .ok (.aload_n 0, 1) := by decide +kernel
theorem dr_cX17_look_70 : decode cX17_look 70 = .ok (.getfield 361, 3) := by decide +kernel
theorem dr_cX17_look_73 : decode cX17_look 73 = .ok (.invokevirtual 170, 3) := by decide +kernel
theorem dr_cX17_look_76 : decode cX17_look 76 = .ok (.iload_n 2, 1) := by decide +kernel
theorem dr_cX17_look_77 : decode cX17_look 77 = .ok (.iconst 2, 1) := by decide +kernel
theorem dr_cX17_look_78 : decode cX17_look 78 = .ok (.if_icmp .ne 15, 3) := by decide +kernel
theorem dr_cX17_look_93 : decode cX17_look 93 = .ok (.aload_n 0, 1) := by decide +kernel
theorem dr_cX17_look_94 : decode cX17_look 94 = .ok (.getfield 152, 3) := by decide +kernel
theorem dr_cX17_look_97 : decode cX17_look 97 = .ok (.iload_n 1, 1) := by decide +kernel
theorem dr_cX17_look_98 : decode cX17_look 98 = .ok (.iaload, 1) := by decide +kernel
theorem dr_cX17_look_99 : decode cX17_look 99 = .ok (.ireturn, 1) := by decide +kernel
theorem dr_cX17_look_81 : decode cX17_look 81 = .ok (.aload_n 0, 1) := by decide +kernel
theorem dr_cX17_look_82 : decode cX17_look 82 = .ok (.getfield 88, 3) := by decide +kernel
theorem dr_cX17_look_85 : decode cX17_look 85 = .ok (.iload_n 1, 1) := by decide +kernel
theorem dr_cX17_look_86 : decode cX17_look 86 = .ok (.aaload, 1) := by decide +kernel
theorem dr_cX17_look_87 : decode cX17_look 87 = .ok (.invokestatic 202, 3) := by decide +kernel
theorem dr_cX17_look_90 : decode cX17_look 90 = .ok (.goto 9, 3) := by decide +kernel
theorem dr_cX17_look_12 : decode cX17_look 12 = .ok (.aload_n 0, 1) := by decide +kernel
theorem dr_cX17_look_13 : decode cX17_look 13 = .ok (.iconst 1, 1) := by decide +kernel
theorem dr_cX17_look_14 : decode cX17_look 14 = .ok (.invokevirtual 385, 3) := by decide +kernel
theorem dr_cX17_look_17 : decode cX17_look 17 = .ok (.ireturn, 1) := by decide +kernel
abbrev ky_571563_SpillForgeModel_word : gKey := (cX17_word_, 5, "SpillForgeModel", (some FieldType.long), [], "word", fun _ _ => True)
def pt_571563_SpillForgeModel_word (D : va_G) (I : FieldType → ClassId) (γ el : Nat → Nat → Nat) (P571559 : List Nat) (F571560 : Nat → va_E) (q571561 : Nat) (p571562 : Int32) : Option Value → va_W → Nat → Nat → Prop := fun r w dc ds => ∃ (F571917 : Nat → va_E) (ol571916 : Int64), r = some (.long ol571916) ∧ w = va_pl P571559 F571917 ∧ RS D I P571559 F571917 γ el ∧ rStr γ [] F571560 F571917 ∧ dc ≤ 0 ∧ ds ≤ 0 ∧ (fI (F571917 q571561) 9).toInt = (fI (F571560 q571561) 9).toInt ∧ (fI (F571917 q571561) 10).toInt = (fI (F571560 q571561) 10).toInt ∧ (fI (F571917 q571561) 32).toInt = (fI (F571560 q571561) 32).toInt
set_option maxRecDepth 100000 in
set_option maxHeartbeats 4000000 in
theorem ct_571563_SpillForgeModel_word (l : Launch) (hl0 : l.stackTraces = false) (D : va_G) (I : FieldType → ClassId) (γ el : Nat → Nat → Nat) (P571559 : List Nat) (F571560 : Nat → va_E) (q571561 : Nat) (p571562 : Int32) (hT : RS D I P571559 F571560 γ el) (htq571561 : rKd γ q571561 10) : CtA (gV D I) l yX17_word_ cX17_word_ 5 (some FieldType.long) 1 21 0 0 [.ref q571561, .int p571562] (va_pl P571559 F571560) (pt_571563_SpillForgeModel_word D I γ el P571559 F571560 q571561 p571562) gNA := by
  refine CtA_of hl0 (by decide) (Nat.le_of_ble_eq_true rfl) ?_
  have bp571562 := gB_any p571562
  have hm571564 : q571561 ∈ P571559 := RS_m hT htq571561 (by decide)
  refine rk10_e (show rk_10 γ (F571560 q571561) from RS_o hT htq571561) (fun q571566 q571567 p571568 p571569 p571570 p571571 p571572 p571573 p571574 p571575 p571576 p571577 p571578 p571579 p571580 p571581 p571582 he571565 hB571609 ht571583 ht571584 ht571585 ht571586 ht571587 ht571588 ht571589 ht571590 ht571591 ht571592 ht571593 ht571594 ht571595 ht571596 ht571597 ht571598 ht571599 ht571600 ht571601 ht571602 ht571603 ht571604 ht571605 ht571606 hB571610 => ?_)
  have ac571611 : (fI (F571560 q571561) 9).toInt = p571568.toInt := by rw [he571565]; rfl
  have bp571568 : gB p571568 0 1 := (hB571609.1)
  have ac571612 : (fI (F571560 q571561) 10).toInt = p571569.toInt := by rw [he571565]; rfl
  have bp571569 : gB p571569 0 1 := (hB571609.2.1)
  have ac571613 : (fI (F571560 q571561) 32).toInt = p571580.toInt := by rw [he571565]; rfl
  have bp571580 : gB p571580 0 8192 := (hB571609.2.2.2.2.2.2.2.1)
  have fq571614 : γ 6 (γ 1 (γ 9 6)) = γ 6 0 := by rw [show γ 1 (γ 9 6) = 0 from ht571604]
  have fq571615 : γ 6 (γ 1 (γ 9 7)) = γ 6 1 := by rw [show γ 1 (γ 9 7) = 1 from ht571605]
  have fq571616 : γ 6 (γ 1 (γ 9 8)) = γ 6 2 := by rw [show γ 1 (γ 9 8) = 2 from ht571606]
  have r571617 : p571582.toInt ≤ γ 12 q571567 := by have z := hB571610; unfold rM2 at z; exact z.2.2
  refine G_aload_n 0 dr_cX17_word__0 rfl ?_
  refine G_iconst 0 dr_cX17_word__1 (by decide +kernel) ?_
  refine Gp_put 30 hm571564 he571565 dr_cX17_word__2 (gk_X17 D I) (Nat.le_of_ble_eq_true rfl) wr_7_104 rfl rfl rfl (Nat.le_of_ble_eq_true rfl) (fun F571618 e571619 n571620 => ?_)
  have he571621 : F571618 q571561 = .inr (22, [.ref (γ 9 0), .ref (γ 9 1), .ref (γ 9 2), .ref (γ 9 3), .ref (γ 9 4), .ref (γ 9 5), .ref (γ 9 6), .ref (γ 9 7), .ref (γ 9 8), .int p571568, .int p571569, .int p571570, .int p571571, .int p571572, .int p571573, .ref (γ 9 15), .ref (γ 9 16), .ref (γ 9 17), .ref (γ 9 18), .ref (γ 9 19), .ref (γ 9 20), .ref (γ 9 21), .ref (γ 9 22), .int p571574, .int p571575, .int p571576, .int p571577, .int p571578, .ref q571566, .ref (γ 9 29), .int 0, .ref (γ 9 31), .int p571580, .int p571581, .int p571582, .ref q571567]) := e571619
  have hs571622 : rStr γ [] F571560 F571618 := rStr_put (rStr_rf (γ := γ) (W := []) (F := F571560)) n571620 htq571561 (by decide)
  refine G_iload_n 1 dr_cX17_word__5 rfl ?_
  refine G_if_lt 17 dr_cX17_word__6 (by decide +kernel) (fun hc571623 => ?_) (fun hc571623 => ?_)
  · have r571624 : p571562.toInt < 0 := gj_lt hc571623 (show Int32.toInt 0 = 0 by decide)
    have bp571562' : gB p571562 (-2147483648) (-1) := ⟨by omega, by omega⟩
    refine G_aload_n 0 dr_cX17_word__17 rfl ?_
    refine G_iconst 1 dr_cX17_word__18 (by decide +kernel) ?_
    have hT571625 : RS D I P571559 F571618 γ el := RS_set hT n571620 htq571561 (by decide) ⟨q571566, q571567, p571568, p571569, p571570, p571571, p571572, p571573, p571574, p571575, p571576, p571577, p571578, 0, p571580, p571581, p571582, he571621, ⟨bp571568, bp571569, (hB571609.2.2.1), (hB571609.2.2.2.1), (hB571609.2.2.2.2.1), (hB571609.2.2.2.2.2.1), (hB571609.2.2.2.2.2.2.1), bp571580, (hB571609.2.2.2.2.2.2.2.2)⟩, ht571583, ht571584, ht571585, ht571586, ht571587, ht571588, ht571589, ht571590, ht571591, ht571592, ht571593, ht571594, ht571595, ht571596, ht571597, ht571598, ht571599, ht571600, ht571601, ht571602, ht571603, ht571604, ht571605, ht571606, hB571610⟩
    have ac571626 : (fI (F571618 q571561) 9).toInt = p571568.toInt := by rw [he571621]; rfl
    have ac571627 : (fI (F571618 q571561) 10).toInt = p571569.toInt := by rw [he571621]; rfl
    have ac571628 : (fI (F571618 q571561) 32).toInt = p571580.toInt := by rw [he571621]; rfl
    refine Gw_callV (As := [.int 1]) (gV_ok D I) (ct_563559_SpillForgeModel_no l hl0 D I γ el P571559 F571618 q571561 1 hT571625 htq571561) dr_cX17_word__19 ⟨wr_7_191, wr_1_14, wr_7_194, by decide, rfl, (Nat.le_of_ble_eq_true rfl), (Nat.le_of_ble_eq_true rfl)⟩ wr_7_193 wr_p_73 hm571564 he571621 rfl (show 0 + 0 ≤ 0 by first | omega | decide) (show 0 + 0 ≤ 0 by first | omega | decide) (Nat.le_of_ble_eq_true rfl) (fun r571632 w571633 dc571629 ds571630 hp571631 => ?_) (fun _ _ _ _ _ z => z.elim)
    obtain ⟨F571638, rfl, rfl, hT571639, hs571640, hdc, hds, x571634, x571635, x571636, x571637⟩ := hp571631
    have hs571641 : rStr γ [] F571560 F571638 := rStr_tr hs571622 hs571640
    rw [show Int32.toInt 1 = 1 from by decide] at x571637
    change G _ _ _ _ _ _ _ (.int 0 :: _) _ _ _
    refine G_widen (cs' := 0) (sl' := 0) (by omega) (by omega) ?_
    refine G_i2l dr_cX17_word__22 (G_namL fun u571642 hu571642 => ?_)
    have hm571643 : q571561 ∈ P571559 := RS_m hT571639 htq571561 (by decide)
    refine rk10_e (show rk_10 γ (F571638 q571561) from RS_o hT571639 htq571561) (fun q571645 q571646 p571647 p571648 p571649 p571650 p571651 p571652 p571653 p571654 p571655 p571656 p571657 p571658 p571659 p571660 p571661 he571644 hB571688 ht571662 ht571663 ht571664 ht571665 ht571666 ht571667 ht571668 ht571669 ht571670 ht571671 ht571672 ht571673 ht571674 ht571675 ht571676 ht571677 ht571678 ht571679 ht571680 ht571681 ht571682 ht571683 ht571684 ht571685 hB571689 => ?_)
    have ac571690 : (fI (F571638 q571561) 9).toInt = p571647.toInt := by rw [he571644]; rfl
    have bp571647 : gB p571647 0 1 := (hB571688.1)
    have ac571691 : (fI (F571638 q571561) 10).toInt = p571648.toInt := by rw [he571644]; rfl
    have bp571648 : gB p571648 0 1 := (hB571688.2.1)
    have ac571692 : (fI (F571638 q571561) 32).toInt = p571659.toInt := by rw [he571644]; rfl
    have bp571659 : gB p571659 0 8192 := (hB571688.2.2.2.2.2.2.2.1)
    have ac571693 : (fI (F571638 q571561) 9).toInt = p571647.toInt := by rw [he571644]; rfl
    have ac571694 : (fI (F571638 q571561) 10).toInt = p571648.toInt := by rw [he571644]; rfl
    have ac571695 : (fI (F571638 q571561) 32).toInt = p571659.toInt := by rw [he571644]; rfl
    exact G_lretA dr_cX17_word__23 rfl (Nat.le_of_ble_eq_true rfl) (Nat.le_of_ble_eq_true rfl) ⟨F571638, u571642, rfl, rfl, hT571639, hs571641, (Nat.le_of_ble_eq_true rfl), (Nat.le_of_ble_eq_true rfl), (by omega), (by omega), (by omega)⟩
  · have r571696 : 0 ≤ p571562.toInt := gj_nlt hc571623 (show Int32.toInt 0 = 0 by decide)
    have bp571562' : gB p571562 0 2147483647 := ⟨by omega, by omega⟩
    refine G_iload_n 1 dr_cX17_word__9 rfl ?_
    refine G_aload_n 0 dr_cX17_word__10 rfl ?_
    refine Gp_get 34 hm571564 he571621 dr_cX17_word__11 (gk_X17 D I) (Nat.le_of_ble_eq_true rfl) wr_7_108 rfl ?_
    have bp571582 : gB p571582 0 16777216 := (hB571609.2.2.2.2.2.2.2.2)
    refine G_icmp_lt 24 dr_cX17_word__14 (by decide +kernel) (fun hc571697 => ?_) (fun hc571697 => ?_)
    · have r571698 : p571562.toInt < p571582.toInt := gC_lt hc571697
      have bp571562'' : gB p571562 0 16777215 := ⟨by omega, by omega⟩
      have bp571582' : gB p571582 1 16777216 := ⟨by omega, by omega⟩
      refine G_lconst 0 dr_cX17_word__24 rfl ?_
      refine G_lstore_n (L' := [(2, .long 0), (0, .ref q571561), (1, .int p571562)]) dr_cX17_word__25 (Nat.le_of_ble_eq_true rfl) rfl ?_
      refine G_iconst 0 dr_cX17_word__26 (by decide +kernel) ?_
      refine G_istore (L' := [(4, .int 0), (2, .long 0), (0, .ref q571561), (1, .int p571562)]) dr_cX17_word__27 (Nat.le_of_ble_eq_true rfl) rfl ?_
      have hT571699 : RS D I P571559 F571618 γ el := RS_set hT n571620 htq571561 (by decide) ⟨q571566, q571567, p571568, p571569, p571570, p571571, p571572, p571573, p571574, p571575, p571576, p571577, p571578, 0, p571580, p571581, p571582, he571621, ⟨bp571568, bp571569, (hB571609.2.2.1), (hB571609.2.2.2.1), (hB571609.2.2.2.2.1), (hB571609.2.2.2.2.2.1), (hB571609.2.2.2.2.2.2.1), bp571580, (gB_w bp571582' (by decide) (by decide))⟩, ht571583, ht571584, ht571585, ht571586, ht571587, ht571588, ht571589, ht571590, ht571591, ht571592, ht571593, ht571594, ht571595, ht571596, ht571597, ht571598, ht571599, ht571600, ht571601, ht571602, ht571603, ht571604, ht571605, ht571606, hB571610⟩
      have hlp29_571809 : ∀ (n29_571809 : Nat) (g571808 : Int32) (gl571809 : Int64), gB g571808 0 8 → ((9 : Int) - g571808.toInt).toNat < n29_571809 → G (gV D I) l (gRm 1 21 0 0) (gMA (gV D I) (pt_571563_SpillForgeModel_word D I γ el P571559 F571560 q571561 p571562) gNA 0 0) ky_571563_SpillForgeModel_word 29 [(4, .int g571808), (2, .long gl571809), (0, .ref q571561), (1, .int p571562)] [] (va_pl P571559 F571618) 0 0 := by
        intro n29_571809
        induction n29_571809 with
        | zero => intro g571808 gl571809 bg571808 hm29_571809; exact absurd hm29_571809 (Nat.not_lt_zero _)
        | succ n29_571809 ih29_571809 =>
          intro g571808 gl571809 bg571808 hm29_571809
          refine G_iload 0 dr_cX17_word__29 rfl ?_
          refine G_bipush 8 dr_cX17_word__31 (by decide +kernel) ?_
          refine G_icmp_ge 77 dr_cX17_word__33 (by decide +kernel) (fun hc571811 => ?_) (fun hc571811 => ?_)
          · have r571812 : 8 ≤ g571808.toInt := gj_leL hc571811 (show Int32.toInt 8 = 8 by decide)
            have bg571808' : gB g571808 8 8 := ⟨by omega, by omega⟩
            refine G_lload_n 1 dr_cX17_word__77 rfl ?_
            have ac571813 : (fI (F571618 q571561) 9).toInt = p571568.toInt := by rw [he571621]; rfl
            have ac571814 : (fI (F571618 q571561) 10).toInt = p571569.toInt := by rw [he571621]; rfl
            have ac571815 : (fI (F571618 q571561) 32).toInt = p571580.toInt := by rw [he571621]; rfl
            exact G_lretA dr_cX17_word__78 rfl (Nat.le_of_ble_eq_true rfl) (Nat.le_of_ble_eq_true rfl) ⟨F571618, gl571809, rfl, rfl, hT571699, hs571622, (Nat.le_of_ble_eq_true rfl), (Nat.le_of_ble_eq_true rfl), (by omega), (by omega), (by omega)⟩
          · have r571816 : g571808.toInt < 8 := gj_nleL hc571811 (show Int32.toInt 8 = 8 by decide)
            have bg571808' : gB g571808 0 7 := ⟨by omega, by omega⟩
            refine G_lload_n 1 dr_cX17_word__36 rfl ?_
            refine G_bipush 8 dr_cX17_word__37 (by decide +kernel) ?_
            refine G_lshl dr_cX17_word__39 (G_namL fun u571817 hu571817 => ?_)
            refine G_iload_n 3 dr_cX17_word__40 rfl ?_
            refine G_iload 0 dr_cX17_word__41 rfl ?_
            refine G_iadd dr_cX17_word__43 (G_nam fun z571818 hz571818 => ?_)
            have ez571818 : z571818.toInt = p571562.toInt + g571808.toInt := by rw [gI_add hz571818 bp571562'' bg571808' (by decide) (by decide)]
            have bz571818 : gB z571818 0 16777222 := gB_add (gI_add hz571818 bp571562'' bg571808' (by decide) (by decide)) bp571562'' bg571808' (by decide) (by decide)
            refine G_aload_n 2 dr_cX17_word__44 rfl ?_
            refine Gp_get 34 hm571564 he571621 dr_cX17_word__45 (gk_X17 D I) (Nat.le_of_ble_eq_true rfl) wr_7_108 rfl ?_
            refine G_icmp_ge 67 dr_cX17_word__48 (by decide +kernel) (fun hc571819 => ?_) (fun hc571819 => ?_)
            · have r571820 : p571582.toInt ≤ z571818.toInt := gC_le hc571819
              have bz571818' : gB z571818 1 16777222 := ⟨by omega, by omega⟩
              refine G_iconst 0 dr_cX17_word__67 (by decide +kernel) ?_
              refine G_i2l dr_cX17_word__68 (G_namL fun u571821 hu571821 => ?_)
              refine G_lor dr_cX17_word__69 (G_namL fun u571822 hu571822 => ?_)
              refine G_lstore_n (L' := [(2, .long u571822), (4, .int g571808), (0, .ref q571561), (1, .int p571562)]) dr_cX17_word__70 (Nat.le_of_ble_eq_true rfl) rfl ?_
              obtain ⟨z571823, hz571823⟩ : ∃ z : Int32, z = g571808 + Int32.ofInt 1 := ⟨_, rfl⟩
              have ez571823 : z571823.toInt = g571808.toInt + 1 := gI_inc hz571823 (by decide) bg571808' (by decide) (by decide)
              have bz571823 : gB z571823 1 8 := ⟨by omega, by omega⟩
              refine G_iinc (L' := [(4, .int z571823), (2, .long u571822), (0, .ref q571561), (1, .int p571562)]) z571823 1 dr_cX17_word__71 rfl hz571823.symm (Nat.le_of_ble_eq_true rfl) rfl ?_
              refine G_goto 29 dr_cX17_word__74 (by decide +kernel) ?_
              have ac571824 : (fI (F571618 q571561) 9).toInt = p571568.toInt := by rw [he571621]; rfl
              have ac571825 : (fI (F571618 q571561) 10).toInt = p571569.toInt := by rw [he571621]; rfl
              have ac571826 : (fI (F571618 q571561) 32).toInt = p571580.toInt := by rw [he571621]; rfl
              exact ih29_571809 z571823 u571822 (gB_w bz571823 (by decide) (by decide)) (mz_up ez571823 (Int.le_trans bg571808'.2 (by decide)) hm29_571809)
            · have r571827 : z571818.toInt < p571582.toInt := gC_nle hc571819
              have bz571818' : gB z571818 0 16777215 := ⟨by omega, by omega⟩
              refine G_aload_n 2 dr_cX17_word__51 rfl ?_
              refine Gp_get 35 hm571564 he571621 dr_cX17_word__52 (gk_X17 D I) (Nat.le_of_ble_eq_true rfl) wr_7_109 rfl ?_
              refine G_iload_n 3 dr_cX17_word__55 rfl ?_
              refine G_iload 0 dr_cX17_word__56 rfl ?_
              refine G_iadd dr_cX17_word__58 (G_nam fun z571828 hz571828 => ?_)
              have ez571828 : z571828.toInt = p571562.toInt + g571808.toInt := by rw [gI_add hz571828 bp571562'' bg571808' (by decide) (by decide)]
              have bz571828 : gB z571828 0 16777222 := gB_add (gI_add hz571828 bp571562'' bg571808' (by decide) (by decide)) bp571562'' bg571808' (by decide) (by decide)
              have hm571829 : q571567 ∈ P571559 := RS_m hT571699 ht571584 (by decide)
              obtain ⟨n571832, f571831, he571830, bf571831, hn571832, gn571832⟩ := show rk_27 I γ q571567 (F571618 q571567) from RS_o hT571699 ht571584
              refine Gp_bald 1 hm571829 he571830 dr_cX17_word__59 rfl (gB_inr (by omega) (by omega)) (G_nam fun z571833 hz571833 => ?_)
              have bz571833 : gB z571833 (-128) 127 := by rw [hz571833]; exact bf571831 _
              refine G_sipush 255 dr_cX17_word__60 (by decide +kernel) ?_
              refine G_iand dr_cX17_word__63 (G_nam fun z571834 hz571834 => ?_)
              have bz571834 : gB z571834 0 255 := gB_and hz571834 (gBl (show Int32.toInt 255 = 255 by decide)) (by decide)
              refine G_goto 68 dr_cX17_word__64 (by decide +kernel) ?_
              refine G_i2l dr_cX17_word__68 (G_namL fun u571835 hu571835 => ?_)
              refine G_lor dr_cX17_word__69 (G_namL fun u571836 hu571836 => ?_)
              refine G_lstore_n (L' := [(2, .long u571836), (4, .int g571808), (0, .ref q571561), (1, .int p571562)]) dr_cX17_word__70 (Nat.le_of_ble_eq_true rfl) rfl ?_
              obtain ⟨z571837, hz571837⟩ : ∃ z : Int32, z = g571808 + Int32.ofInt 1 := ⟨_, rfl⟩
              have ez571837 : z571837.toInt = g571808.toInt + 1 := gI_inc hz571837 (by decide) bg571808' (by decide) (by decide)
              have bz571837 : gB z571837 1 8 := ⟨by omega, by omega⟩
              refine G_iinc (L' := [(4, .int z571837), (2, .long u571836), (0, .ref q571561), (1, .int p571562)]) z571837 1 dr_cX17_word__71 rfl hz571837.symm (Nat.le_of_ble_eq_true rfl) rfl ?_
              refine G_goto 29 dr_cX17_word__74 (by decide +kernel) ?_
              have ac571838 : (fI (F571618 q571561) 9).toInt = p571568.toInt := by rw [he571621]; rfl
              have ac571839 : (fI (F571618 q571561) 10).toInt = p571569.toInt := by rw [he571621]; rfl
              have ac571840 : (fI (F571618 q571561) 32).toInt = p571580.toInt := by rw [he571621]; rfl
              exact ih29_571809 z571837 u571836 (gB_w bz571837 (by decide) (by decide)) (mz_up ez571837 (Int.le_trans bg571808'.2 (by decide)) hm29_571809)
      have ac571841 : (fI (F571618 q571561) 9).toInt = p571568.toInt := by rw [he571621]; rfl
      have ac571842 : (fI (F571618 q571561) 10).toInt = p571569.toInt := by rw [he571621]; rfl
      have ac571843 : (fI (F571618 q571561) 32).toInt = p571580.toInt := by rw [he571621]; rfl
      exact hlp29_571809 (((9 : Int) - 0).toNat + 1) 0 0 (gB_w (gBl (show Int32.toInt 0 = 0 by decide)) (by decide) (by decide)) (Nat.lt_succ_self _)
    · have r571844 : p571582.toInt ≤ p571562.toInt := gC_nlt hc571697
      refine G_aload_n 0 dr_cX17_word__17 rfl ?_
      refine G_iconst 1 dr_cX17_word__18 (by decide +kernel) ?_
      have hT571845 : RS D I P571559 F571618 γ el := RS_set hT n571620 htq571561 (by decide) ⟨q571566, q571567, p571568, p571569, p571570, p571571, p571572, p571573, p571574, p571575, p571576, p571577, p571578, 0, p571580, p571581, p571582, he571621, ⟨bp571568, bp571569, (hB571609.2.2.1), (hB571609.2.2.2.1), (hB571609.2.2.2.2.1), (hB571609.2.2.2.2.2.1), (hB571609.2.2.2.2.2.2.1), bp571580, bp571582⟩, ht571583, ht571584, ht571585, ht571586, ht571587, ht571588, ht571589, ht571590, ht571591, ht571592, ht571593, ht571594, ht571595, ht571596, ht571597, ht571598, ht571599, ht571600, ht571601, ht571602, ht571603, ht571604, ht571605, ht571606, hB571610⟩
      have ac571846 : (fI (F571618 q571561) 9).toInt = p571568.toInt := by rw [he571621]; rfl
      have ac571847 : (fI (F571618 q571561) 10).toInt = p571569.toInt := by rw [he571621]; rfl
      have ac571848 : (fI (F571618 q571561) 32).toInt = p571580.toInt := by rw [he571621]; rfl
      refine Gw_callV (As := [.int 1]) (gV_ok D I) (ct_563559_SpillForgeModel_no l hl0 D I γ el P571559 F571618 q571561 1 hT571845 htq571561) dr_cX17_word__19 ⟨wr_7_191, wr_1_14, wr_7_194, by decide, rfl, (Nat.le_of_ble_eq_true rfl), (Nat.le_of_ble_eq_true rfl)⟩ wr_7_193 wr_p_73 hm571564 he571621 rfl (show 0 + 0 ≤ 0 by first | omega | decide) (show 0 + 0 ≤ 0 by first | omega | decide) (Nat.le_of_ble_eq_true rfl) (fun r571852 w571853 dc571849 ds571850 hp571851 => ?_) (fun _ _ _ _ _ z => z.elim)
      obtain ⟨F571858, rfl, rfl, hT571859, hs571860, hdc, hds, x571854, x571855, x571856, x571857⟩ := hp571851
      have hs571861 : rStr γ [] F571560 F571858 := rStr_tr hs571622 hs571860
      rw [show Int32.toInt 1 = 1 from by decide] at x571857
      change G _ _ _ _ _ _ _ (.int 0 :: _) _ _ _
      refine G_widen (cs' := 0) (sl' := 0) (by omega) (by omega) ?_
      refine G_i2l dr_cX17_word__22 (G_namL fun u571862 hu571862 => ?_)
      have hm571863 : q571561 ∈ P571559 := RS_m hT571859 htq571561 (by decide)
      refine rk10_e (show rk_10 γ (F571858 q571561) from RS_o hT571859 htq571561) (fun q571865 q571866 p571867 p571868 p571869 p571870 p571871 p571872 p571873 p571874 p571875 p571876 p571877 p571878 p571879 p571880 p571881 he571864 hB571908 ht571882 ht571883 ht571884 ht571885 ht571886 ht571887 ht571888 ht571889 ht571890 ht571891 ht571892 ht571893 ht571894 ht571895 ht571896 ht571897 ht571898 ht571899 ht571900 ht571901 ht571902 ht571903 ht571904 ht571905 hB571909 => ?_)
      have ac571910 : (fI (F571858 q571561) 9).toInt = p571867.toInt := by rw [he571864]; rfl
      have bp571867 : gB p571867 0 1 := (hB571908.1)
      have ac571911 : (fI (F571858 q571561) 10).toInt = p571868.toInt := by rw [he571864]; rfl
      have bp571868 : gB p571868 0 1 := (hB571908.2.1)
      have ac571912 : (fI (F571858 q571561) 32).toInt = p571879.toInt := by rw [he571864]; rfl
      have bp571879 : gB p571879 0 8192 := (hB571908.2.2.2.2.2.2.2.1)
      have ac571913 : (fI (F571858 q571561) 9).toInt = p571867.toInt := by rw [he571864]; rfl
      have ac571914 : (fI (F571858 q571561) 10).toInt = p571868.toInt := by rw [he571864]; rfl
      have ac571915 : (fI (F571858 q571561) 32).toInt = p571879.toInt := by rw [he571864]; rfl
      exact G_lretA dr_cX17_word__23 rfl (Nat.le_of_ble_eq_true rfl) (Nat.le_of_ble_eq_true rfl) ⟨F571858, u571862, rfl, rfl, hT571859, hs571861, (Nat.le_of_ble_eq_true rfl), (Nat.le_of_ble_eq_true rfl), (by omega), (by omega), (by omega)⟩
abbrev ky_572004_SpillForgeModel_no : gKey := (cX17_no, 2, "SpillForgeModel", (some FieldType.int), [], "no", fun _ _ => True)
def pt_572004_SpillForgeModel_no (D : va_G) (I : FieldType → ClassId) (γ el : Nat → Nat → Nat) (P572000 : List Nat) (F572001 : Nat → va_E) (q572002 : Nat) (p572003 : Int32) : Option Value → va_W → Nat → Nat → Prop := fun r w dc ds => ∃ (F572061 : Nat → va_E), r = some (.int 0) ∧ w = va_pl P572000 F572061 ∧ RS D I P572000 F572061 γ el ∧ rStr γ [] F572001 F572061 ∧ dc ≤ 0 ∧ ds ≤ 0 ∧ (fI (F572061 q572002) 10).toInt = (fI (F572001 q572002) 10).toInt ∧ mKp (F572001 q572002) (F572061 q572002)
set_option maxRecDepth 100000 in
set_option maxHeartbeats 4000000 in
theorem ct_572004_SpillForgeModel_no (l : Launch) (hl0 : l.stackTraces = false) (D : va_G) (I : FieldType → ClassId) (γ el : Nat → Nat → Nat) (P572000 : List Nat) (F572001 : Nat → va_E) (q572002 : Nat) (p572003 : Int32) (hT : RS D I P572000 F572001 γ el) (htq572002 : rKd γ q572002 10) : CtA (gV D I) l yX17_no cX17_no 2 (some FieldType.int) 0 0 0 0 [.ref q572002, .int p572003] (va_pl P572000 F572001) (pt_572004_SpillForgeModel_no D I γ el P572000 F572001 q572002 p572003) gNA := by
  refine CtA_of hl0 (by decide) (Nat.le_of_ble_eq_true rfl) ?_
  have bp572003 := gB_any p572003
  have hm572005 : q572002 ∈ P572000 := RS_m hT htq572002 (by decide)
  refine rk10_e (show rk_10 γ (F572001 q572002) from RS_o hT htq572002) (fun q572007 q572008 p572009 p572010 p572011 p572012 p572013 p572014 p572015 p572016 p572017 p572018 p572019 p572020 p572021 p572022 p572023 he572006 hB572050 ht572024 ht572025 ht572026 ht572027 ht572028 ht572029 ht572030 ht572031 ht572032 ht572033 ht572034 ht572035 ht572036 ht572037 ht572038 ht572039 ht572040 ht572041 ht572042 ht572043 ht572044 ht572045 ht572046 ht572047 hB572051 => ?_)
  have ac572052 : (fI (F572001 q572002) 10).toInt = p572010.toInt := by rw [he572006]; rfl
  have bp572010 : gB p572010 0 1 := (hB572050.2.1)
  refine G_aload_n 0 dr_cX17_no_0 rfl ?_
  refine G_iload_n 1 dr_cX17_no_1 rfl ?_
  refine Gp_put 30 hm572005 he572006 dr_cX17_no_2 (gk_X17 D I) (Nat.le_of_ble_eq_true rfl) wr_7_104 rfl rfl rfl (Nat.le_of_ble_eq_true rfl) (fun F572053 e572054 n572055 => ?_)
  have he572056 : F572053 q572002 = .inr (22, [.ref (γ 9 0), .ref (γ 9 1), .ref (γ 9 2), .ref (γ 9 3), .ref (γ 9 4), .ref (γ 9 5), .ref (γ 9 6), .ref (γ 9 7), .ref (γ 9 8), .int p572009, .int p572010, .int p572011, .int p572012, .int p572013, .int p572014, .ref (γ 9 15), .ref (γ 9 16), .ref (γ 9 17), .ref (γ 9 18), .ref (γ 9 19), .ref (γ 9 20), .ref (γ 9 21), .ref (γ 9 22), .int p572015, .int p572016, .int p572017, .int p572018, .int p572019, .ref q572007, .ref (γ 9 29), .int p572003, .ref (γ 9 31), .int p572021, .int p572022, .int p572023, .ref q572008]) := e572054
  have mk572057 : mKp (F572001 q572002) (F572053 q572002) := mKp_tr mKp_rf (by rw [he572006, he572056]; exact ⟨rfl, rfl⟩)
  have hs572058 : rStr γ [] F572001 F572053 := rStr_put (rStr_rf (γ := γ) (W := []) (F := F572001)) n572055 htq572002 (by decide)
  refine G_iconst 0 dr_cX17_no_5 (by decide +kernel) ?_
  have hT572059 : RS D I P572000 F572053 γ el := RS_set hT n572055 htq572002 (by decide) ⟨q572007, q572008, p572009, p572010, p572011, p572012, p572013, p572014, p572015, p572016, p572017, p572018, p572019, p572003, p572021, p572022, p572023, he572056, ⟨(hB572050.1), bp572010, (hB572050.2.2.1), (hB572050.2.2.2.1), (hB572050.2.2.2.2.1), (hB572050.2.2.2.2.2.1), (hB572050.2.2.2.2.2.2.1), (hB572050.2.2.2.2.2.2.2.1), (hB572050.2.2.2.2.2.2.2.2)⟩, ht572024, ht572025, ht572026, ht572027, ht572028, ht572029, ht572030, ht572031, ht572032, ht572033, ht572034, ht572035, ht572036, ht572037, ht572038, ht572039, ht572040, ht572041, ht572042, ht572043, ht572044, ht572045, ht572046, ht572047, hB572051⟩
  have ac572060 : (fI (F572053 q572002) 10).toInt = p572010.toInt := by rw [he572056]; rfl
  exact G_iretA dr_cX17_no_6 rfl (Nat.le_of_ble_eq_true rfl) (Nat.le_of_ble_eq_true rfl) ⟨F572053, rfl, rfl, hT572059, hs572058, (Nat.le_of_ble_eq_true rfl), (Nat.le_of_ble_eq_true rfl), (by have qa0 : Int32.toInt 0 = 0 := (by decide); omega), mk572057⟩
abbrev ky_571930_SpillForgeModel_look : gKey := (cX17_look, 3, "SpillForgeModel", (some FieldType.int), [], "look", fun _ _ => True)
def pg_571930_SpillForgeModel_look (D : va_G) (I : FieldType → ClassId) (γ0 el0 : Nat → Nat → Nat) (f : Nat) (fo : Nat) (B : Nat) (P571918 : List Nat) (F571919 : Nat → va_E) (q571920 : Nat) (p571921 : Int32) (p571922 : Int32) (q571923 : Nat) (q571924 : Nat) : Option Value → va_W → Nat → Nat → Prop := fun r w dc ds => ∃ (P572536 : List Nat) (F572537 : Nat → va_E) (γ el : Nat → Nat → Nat) (o572535 : Int32), r = some (.int o572535) ∧ w = va_pl P572536 F572537 ∧ rSk f [1, 2, 3, 101, 102, 103, 202] ([1, 2, 3, 4, 5, 6, 7, 8, 9, 101, 102, 103, 202] ++ npk) D I P571918 F571919 γ0 el0 P572536 F572537 γ el ∧ (18 * dc + rPh γ0 el0 f ≤ rPh γ el f ∧ ds + rPh γ0 el0 f ≤ rPh γ el f) ∧ rBd γ el f B ∧ (fI (F572537 q571920) 10).toInt = (fI (F571919 q571920) 10).toInt ∧ mKp (F571919 q571920) (F572537 q571920)
set_option maxRecDepth 100000 in
set_option maxHeartbeats 20000000 in
theorem cg_571930_SpillForgeModel_look (l : Launch) (hl0 : l.stackTraces = false) (D : va_G) (I : FieldType → ClassId) (γ0 el0 : Nat → Nat → Nat) (f : Nat) (fo : Nat) (B : Nat) (P571918 : List Nat) (F571919 : Nat → va_E) (q571920 : Nat) (p571921 : Int32) (p571922 : Int32) (q571923 : Nat) (q571924 : Nat) (hT0 : RS D I P571918 F571919 γ0 el0) (hzq571920 : rKd γ0 q571920 10) (hzq571923 : rKd γ0 q571923 9) (hzq571924 : rKd γ0 q571924 9) (hvq571923 : γ0 9 8 = q571923) (hvq571924 : γ0 9 6 = q571924) (hf0 : γ0 1 q571923 = f) (hfo0 : γ0 1 q571924 = fo) (hne : fo ≠ f) (hB0 : rBd γ0 el0 f B) (hBk : B ≤ 100000) (x571925 : f = 2) (x571926 : fo = 0) (x571927 : ((fI (F571919 q571920) 9).toInt = 0 ∨ (0 < γ0 6 fo ∧ γ0 16 fo ≤ 160))) (x571928 : γ0 7 fo = 0) (x571929 : 2160 ≤ B) : CtA (gV D I) l yX17_look cX17_look 3 (some FieldType.int) 9 196 (((387 * B + 6000) - rPh γ0 el0 f) / 18) ((387 * B + 6000) - rPh γ0 el0 f) [.ref q571920, .int p571921, .int p571922] (va_pl P571918 F571919) (pg_571930_SpillForgeModel_look D I γ0 el0 f fo B P571918 F571919 q571920 p571921 p571922 q571923 q571924) gNA := by
  refine CtA_of hl0 (by decide) (Nat.le_of_ble_eq_true rfl) ?_
  have bp571921 := gB_any p571921
  have bp571922 := gB_any p571922
  obtain ⟨γ, hγ0⟩ : ∃ z, z = γ0 := ⟨_, rfl⟩
  obtain ⟨el, hel0⟩ : ∃ z, z = el0 := ⟨_, rfl⟩
  have hT : RS D I P571918 F571919 γ el := by rw [hγ0, hel0]; exact hT0
  have hst : rSk f [1, 2, 3, 101, 102, 103, 202] ([1, 2, 3, 4, 5, 6, 7, 8, 9, 101, 102, 103, 202] ++ npk) D I P571918 F571919 γ0 el0 P571918 F571919 γ el := by rw [hγ0, hel0]; exact rSk_rf hT0
  have hph : rPh γ0 el0 f ≤ rPh γ el f := by rw [hγ0, hel0]; exact Nat.le_refl _
  have hB : rBd γ el f B := by rw [hγ0, hel0]; exact hB0
  have htq571920 : rKd γ q571920 10 := by rw [hγ0]; exact hzq571920
  have htq571923 : rKd γ q571923 9 := by rw [hγ0]; exact hzq571923
  have htq571924 : rKd γ q571924 9 := by rw [hγ0]; exact hzq571924
  have hf1 : γ 1 q571923 = f := by rw [hγ0]; exact hf0
  have hfo1 : γ 1 q571924 = fo := by rw [hγ0]; exact hfo0
  have x571927n : ((fI (F571919 q571920) 9).toInt = 0 ∨ (0 < γ 6 fo ∧ γ 16 fo ≤ 160)) := by rw [hγ0]; exact x571927
  have x571928n : γ 7 fo = 0 := by rw [hγ0]; exact x571928
  have pk571931 : rPh γ el f ≤ 387 * B + 6000 := rm_pk (rM_ge hT htq571923 hf1).1 (rM_bd hB)
  refine G_widen (cs' := ((rPh γ el f - rPh γ0 el0 f) / 18)) (sl' := (rPh γ el f - rPh γ0 el0 f)) (Nat.zero_le _) (Nat.zero_le _) ?_
  have lz0 : Int32.toInt 0 = 0 := by decide
  have r571932 : γ 6 f = γ0 6 f := by rw [hγ0]
  have r571933 : γ 7 f = γ0 7 f := by rw [hγ0]
  have r571934 : γ 16 f = γ0 16 f := by rw [hγ0]
  have r571935 : γ 18 f = γ0 18 f := by rw [hγ0]
  have r571936 : γ 19 f = γ0 19 f := by rw [hγ0]
  have hm571937 : q571920 ∈ P571918 := RS_m hT htq571920 (by decide)
  refine rk10_e (show rk_10 γ (F571919 q571920) from RS_o hT htq571920) (fun q571939 q571940 p571941 p571942 p571943 p571944 p571945 p571946 p571947 p571948 p571949 p571950 p571951 p571952 p571953 p571954 p571955 he571938 hB571982 ht571956 ht571957 ht571958 ht571959 ht571960 ht571961 ht571962 ht571963 ht571964 ht571965 ht571966 ht571967 ht571968 ht571969 ht571970 ht571971 ht571972 ht571973 ht571974 ht571975 ht571976 ht571977 ht571978 ht571979 hB571983 => ?_)
  have ac0_9 : (fI (F571919 q571920) 9).toInt = p571941.toInt := by rw [he571938]; rfl
  have ac0_10 : (fI (F571919 q571920) 10).toInt = p571942.toInt := by rw [he571938]; rfl
  have ac0_32 : (fI (F571919 q571920) 32).toInt = p571953.toInt := by rw [he571938]; rfl
  have r571984 : γ 6 fo = γ0 6 fo := by rw [hγ0]
  have r571985 : γ 7 fo = γ0 7 fo := by rw [hγ0]
  have r571986 : γ 16 fo = γ0 16 fo := by rw [hγ0]
  refine G_aload_n 0 dr_cX17_look_0 rfl ?_
  refine G_iconst 0 dr_cX17_look_1 (by decide +kernel) ?_
  refine Gp_put 30 hm571937 he571938 dr_cX17_look_2 (gk_X17 D I) (Nat.le_of_ble_eq_true rfl) wr_7_104 rfl rfl rfl (Nat.le_of_ble_eq_true rfl) (fun F571987 e571988 n571989 => ?_)
  have he571990 : F571987 q571920 = .inr (22, [.ref (γ 9 0), .ref (γ 9 1), .ref (γ 9 2), .ref (γ 9 3), .ref (γ 9 4), .ref (γ 9 5), .ref (γ 9 6), .ref (γ 9 7), .ref (γ 9 8), .int p571941, .int p571942, .int p571943, .int p571944, .int p571945, .int p571946, .ref (γ 9 15), .ref (γ 9 16), .ref (γ 9 17), .ref (γ 9 18), .ref (γ 9 19), .ref (γ 9 20), .ref (γ 9 21), .ref (γ 9 22), .int p571947, .int p571948, .int p571949, .int p571950, .int p571951, .ref q571939, .ref (γ 9 29), .int 0, .ref (γ 9 31), .int p571953, .int p571954, .int p571955, .ref q571940]) := e571988
  have mk571991 : mKp (F571919 q571920) (F571987 q571920) := mKp_tr mKp_rf (by rw [he571938, he571990]; exact ⟨rfl, rfl⟩)
  have hT571992 : RS D I P571918 F571987 γ el := RS_set hT n571989 htq571920 (by decide) ⟨q571939, q571940, p571941, p571942, p571943, p571944, p571945, p571946, p571947, p571948, p571949, p571950, p571951, 0, p571953, p571954, p571955, he571990, ⟨(hB571982.1), (hB571982.2.1), (hB571982.2.2.1), (hB571982.2.2.2.1), (hB571982.2.2.2.2.1), (hB571982.2.2.2.2.2.1), (hB571982.2.2.2.2.2.2.1), (hB571982.2.2.2.2.2.2.2.1), (hB571982.2.2.2.2.2.2.2.2)⟩, ht571956, ht571957, ht571958, ht571959, ht571960, ht571961, ht571962, ht571963, ht571964, ht571965, ht571966, ht571967, ht571968, ht571969, ht571970, ht571971, ht571972, ht571973, ht571974, ht571975, ht571976, ht571977, ht571978, ht571979, hB571983⟩
  have hs571993 := rSk_put hst hT571992 n571989 htq571920 (by decide) (by decide)
  have ac571994 : (fI (F571987 q571920) 10).toInt = p571942.toInt := by rw [he571990]; rfl
  have r571995 : γ 6 (γ 1 q571924) = γ 6 fo := by rw [hfo1]
  refine G_aload_n 0 dr_cX17_look_5 rfl ?_
  refine Gp_get 9 hm571937 he571990 dr_cX17_look_6 (gk_X17 D I) (Nat.le_of_ble_eq_true rfl) wr_7_83 rfl ?_
  have bp571941 : gB p571941 0 1 := (hB571982.1)
  refine G_if_ne 18 dr_cX17_look_9 (by decide +kernel) (fun hc571996 => ?_) (fun hc571996 => ?_)
  · have r571997 : p571941.toInt ≠ 0 := gj_neq hc571996 (show Int32.toInt 0 = 0 by decide)
    have bp571941' : gB p571941 1 1 := gB_t1 bp571941 r571997
    refine G_iload_n 2 dr_cX17_look_18 rfl ?_
    refine G_if_lt 27 dr_cX17_look_19 (by decide +kernel) (fun hc571998 => ?_) (fun hc571998 => ?_)
    · have r571999 : p571922.toInt < 0 := gj_lt hc571998 (show Int32.toInt 0 = 0 by decide)
      have bp571922' : gB p571922 (-2147483648) (-1) := ⟨by omega, by omega⟩
      refine G_aload_n 0 dr_cX17_look_27 rfl ?_
      refine G_iconst 2 dr_cX17_look_28 (by decide +kernel) ?_
      refine Gw_callV (As := [.int 2]) (gV_ok D I) (ct_572004_SpillForgeModel_no l hl0 D I γ el P571918 F571987 q571920 2 hT571992 htq571920) dr_cX17_look_29 ⟨wr_7_191, wr_1_14, wr_7_194, by decide, rfl, (Nat.le_of_ble_eq_true rfl), (Nat.le_of_ble_eq_true rfl)⟩ wr_7_193 wr_p_73 hm571937 he571990 rfl (rm_zc pk571931) (rm_zs pk571931) (Nat.le_of_ble_eq_true rfl) (fun r572065 w572066 dc572062 ds572063 hp572064 => ?_) (fun _ _ _ _ _ z => z.elim)
      obtain ⟨F572069, rfl, rfl, hT572070, hs572071, hdc, hds, x572067, x572068⟩ := hp572064
      have hs572072 := rSk_str hs571993 hT572070 hs572071 (by decide) (by decide) (by decide)
      have mk572073 : mKp (F571919 q571920) (F572069 q571920) := mKp_tr mk571991 x572068
      change G _ _ _ _ _ _ _ (.int 0 :: _) _ _ _
      refine G_widen (cs' := ((rPh γ el f - rPh γ0 el0 f) / 18)) (sl' := (rPh γ el f - rPh γ0 el0 f)) (rm_d0 hdc) (rm_d0 hds) ?_
      exact G_iretA dr_cX17_look_32 rfl (show ((rPh γ el f - rPh γ0 el0 f) / 18) ≤ (((387 * B + 6000) - rPh γ0 el0 f) / 18) by omega) (show (rPh γ el f - rPh γ0 el0 f) ≤ ((387 * B + 6000) - rPh γ0 el0 f) by omega) ⟨P571918, F572069, γ, el, 0, rfl, rfl, hs572072, ⟨by omega, by omega⟩, hB, (by have qa0 : Int32.toInt 0 = 0 := (by decide); omega), mk572073⟩
    · have r572074 : 0 ≤ p571922.toInt := gj_nlt hc571998 (show Int32.toInt 0 = 0 by decide)
      have bp571922' : gB p571922 0 2147483647 := ⟨by omega, by omega⟩
      refine G_iload_n 2 dr_cX17_look_22 rfl ?_
      refine G_iconst 3 dr_cX17_look_23 (by decide +kernel) ?_
      refine G_icmp_le 33 dr_cX17_look_24 (by decide +kernel) (fun hc572075 => ?_) (fun hc572075 => ?_)
      · have r572076 : p571922.toInt ≤ 3 := gj_le hc572075 (show Int32.toInt 3 = 3 by decide)
        have bp571922'' : gB p571922 0 3 := ⟨by omega, by omega⟩
        refine G_iload_n 2 dr_cX17_look_33 rfl ?_
        refine G_iconst 1 dr_cX17_look_34 (by decide +kernel) ?_
        refine G_icmp_le 100 dr_cX17_look_35 (by decide +kernel) (fun hc572077 => ?_) (fun hc572077 => ?_)
        · have r572078 : p571922.toInt ≤ 1 := gj_le hc572077 (show Int32.toInt 1 = 1 by decide)
          have bp571922''' : gB p571922 0 1 := ⟨by omega, by omega⟩
          refine G_aload_n 0 dr_cX17_look_100 rfl ?_
          refine G_aload_n 0 dr_cX17_look_101 rfl ?_
          refine Gp_get 6 hm571937 he571990 dr_cX17_look_102 (gk_X17 D I) (Nat.le_of_ble_eq_true rfl) wr_7_80 rfl ?_
          rw [show γ 9 6 = q571924 from (congrFun (rSk_9 hs571993) 6).trans hvq571924]
          refine G_iconst 0 dr_cX17_look_105 (by decide +kernel) ?_
          refine Gw_callV (As := [.ref q571924, .int 0]) (gV_ok D I) (ct_270222_SpillForgeModel_graph l hl0 D I γ el P571918 F571987 q571920 q571924 0 hT571992 htq571920 htq571924 (gB_w (gBl (show Int32.toInt 0 = 0 by decide)) (by decide) (by decide)) (by omega)) dr_cX17_look_106 ⟨wr_10_233, wr_1_14, wr_10_236, by decide, rfl, (Nat.le_of_ble_eq_true rfl), (Nat.le_of_ble_eq_true rfl)⟩ wr_10_235 wr_p_99 hm571937 he571990 rfl (rm_zc pk571931) (rm_zs pk571931) (Nat.le_of_ble_eq_true rfl) (fun r572082 w572083 dc572079 ds572080 hp572081 => ?_) (fun _ _ _ _ _ z => z.elim)
          obtain ⟨F572086, rfl, rfl, hT572087, hs572088, hdc, hds, x572084, x572085⟩ := hp572081
          have hs572089 := rSk_str hs571993 hT572087 hs572088 (by decide) (by decide) (by decide)
          have kp572090 : F572086 q571920 = F571987 q571920 := x572085
          have mk572091 : mKp (F571919 q571920) (F572086 q571920) := mKp_tr mk571991 (mKp_eq x572085)
          have he572092 : F572086 q571920 = .inr (22, [.ref (γ 9 0), .ref (γ 9 1), .ref (γ 9 2), .ref (γ 9 3), .ref (γ 9 4), .ref (γ 9 5), .ref (γ 9 6), .ref (γ 9 7), .ref (γ 9 8), .int p571941, .int p571942, .int p571943, .int p571944, .int p571945, .int p571946, .ref (γ 9 15), .ref (γ 9 16), .ref (γ 9 17), .ref (γ 9 18), .ref (γ 9 19), .ref (γ 9 20), .ref (γ 9 21), .ref (γ 9 22), .int p571947, .int p571948, .int p571949, .int p571950, .int p571951, .ref q571939, .ref (γ 9 29), .int 0, .ref (γ 9 31), .int p571953, .int p571954, .int p571955, .ref q571940]) := (x572085).trans he571990
          rw [show Int32.toInt 0 = 0 from by decide] at x572084
          change G _ _ _ _ _ _ _ _ _ _ _
          refine G_widen (cs' := ((rPh γ el f - rPh γ0 el0 f) / 18)) (sl' := (rPh γ el f - rPh γ0 el0 f)) (rm_d0 hdc) (rm_d0 hds) ?_
          refine G_iload_n 1 dr_cX17_look_109 rfl ?_
          refine G_if_lt 129 dr_cX17_look_110 (by decide +kernel) (fun hc572093 => ?_) (fun hc572093 => ?_)
          · have r572094 : p571921.toInt < 0 := gj_lt hc572093 (show Int32.toInt 0 = 0 by decide)
            have bp571921' : gB p571921 (-2147483648) (-1) := ⟨by omega, by omega⟩
            have ac572095 : (fI (F572086 q571920) 10).toInt = (fI (F571987 q571920) 10).toInt := by rw [kp572090]
            refine G_aload_n 0 dr_cX17_look_129 rfl ?_
            refine G_iconst 3 dr_cX17_look_130 (by decide +kernel) ?_
            refine Gw_callV (As := [.int 3]) (gV_ok D I) (ct_572004_SpillForgeModel_no l hl0 D I γ el P571918 F572086 q571920 3 hT572087 htq571920) dr_cX17_look_131 ⟨wr_7_191, wr_1_14, wr_7_194, by decide, rfl, (Nat.le_of_ble_eq_true rfl), (Nat.le_of_ble_eq_true rfl)⟩ wr_7_193 wr_p_73 hm571937 he572092 rfl (rm_zc pk571931) (rm_zs pk571931) (Nat.le_of_ble_eq_true rfl) (fun r572099 w572100 dc572096 ds572097 hp572098 => ?_) (fun _ _ _ _ _ z => z.elim)
            obtain ⟨F572103, rfl, rfl, hT572104, hs572105, hdc, hds, x572101, x572102⟩ := hp572098
            have hs572106 := rSk_str hs572089 hT572104 hs572105 (by decide) (by decide) (by decide)
            have mk572107 : mKp (F571919 q571920) (F572103 q571920) := mKp_tr mk572091 x572102
            change G _ _ _ _ _ _ _ (.int 0 :: _) _ _ _
            refine G_widen (cs' := ((rPh γ el f - rPh γ0 el0 f) / 18)) (sl' := (rPh γ el f - rPh γ0 el0 f)) (rm_d0 hdc) (rm_d0 hds) ?_
            exact G_iretA dr_cX17_look_134 rfl (show ((rPh γ el f - rPh γ0 el0 f) / 18) ≤ (((387 * B + 6000) - rPh γ0 el0 f) / 18) by omega) (show (rPh γ el f - rPh γ0 el0 f) ≤ ((387 * B + 6000) - rPh γ0 el0 f) by omega) ⟨P571918, F572103, γ, el, 0, rfl, rfl, hs572106, ⟨by omega, by omega⟩, hB, (by have qa0 : Int32.toInt 0 = 0 := (by decide); omega), mk572107⟩
          · have r572108 : 0 ≤ p571921.toInt := gj_nlt hc572093 (show Int32.toInt 0 = 0 by decide)
            have bp571921' : gB p571921 0 2147483647 := ⟨by omega, by omega⟩
            refine G_iload_n 1 dr_cX17_look_113 rfl ?_
            refine G_sipush 2000 dr_cX17_look_114 (by decide +kernel) ?_
            refine G_icmp_ge 129 dr_cX17_look_117 (by decide +kernel) (fun hc572109 => ?_) (fun hc572109 => ?_)
            · have r572110 : 2000 ≤ p571921.toInt := gj_leL hc572109 (show Int32.toInt 2000 = 2000 by decide)
              have bp571921'' : gB p571921 2000 2147483647 := ⟨by omega, by omega⟩
              have ac572111 : (fI (F572086 q571920) 10).toInt = (fI (F571987 q571920) 10).toInt := by rw [kp572090]
              refine G_aload_n 0 dr_cX17_look_129 rfl ?_
              refine G_iconst 3 dr_cX17_look_130 (by decide +kernel) ?_
              refine Gw_callV (As := [.int 3]) (gV_ok D I) (ct_572004_SpillForgeModel_no l hl0 D I γ el P571918 F572086 q571920 3 hT572087 htq571920) dr_cX17_look_131 ⟨wr_7_191, wr_1_14, wr_7_194, by decide, rfl, (Nat.le_of_ble_eq_true rfl), (Nat.le_of_ble_eq_true rfl)⟩ wr_7_193 wr_p_73 hm571937 he572092 rfl (rm_zc pk571931) (rm_zs pk571931) (Nat.le_of_ble_eq_true rfl) (fun r572115 w572116 dc572112 ds572113 hp572114 => ?_) (fun _ _ _ _ _ z => z.elim)
              obtain ⟨F572119, rfl, rfl, hT572120, hs572121, hdc, hds, x572117, x572118⟩ := hp572114
              have hs572122 := rSk_str hs572089 hT572120 hs572121 (by decide) (by decide) (by decide)
              have mk572123 : mKp (F571919 q571920) (F572119 q571920) := mKp_tr mk572091 x572118
              change G _ _ _ _ _ _ _ (.int 0 :: _) _ _ _
              refine G_widen (cs' := ((rPh γ el f - rPh γ0 el0 f) / 18)) (sl' := (rPh γ el f - rPh γ0 el0 f)) (rm_d0 hdc) (rm_d0 hds) ?_
              exact G_iretA dr_cX17_look_134 rfl (show ((rPh γ el f - rPh γ0 el0 f) / 18) ≤ (((387 * B + 6000) - rPh γ0 el0 f) / 18) by omega) (show (rPh γ el f - rPh γ0 el0 f) ≤ ((387 * B + 6000) - rPh γ0 el0 f) by omega) ⟨P571918, F572119, γ, el, 0, rfl, rfl, hs572122, ⟨by omega, by omega⟩, hB, (by have qa0 : Int32.toInt 0 = 0 := (by decide); omega), mk572123⟩
            · have r572124 : p571921.toInt < 2000 := gj_nleL hc572109 (show Int32.toInt 2000 = 2000 by decide)
              have bp571921'' : gB p571921 0 1999 := ⟨by omega, by omega⟩
              refine G_aload_n 0 dr_cX17_look_120 rfl ?_
              refine Gp_get 3 hm571937 he572092 dr_cX17_look_121 (gk_X17 D I) (Nat.le_of_ble_eq_true rfl) wr_7_77 rfl ?_
              refine G_iload_n 1 dr_cX17_look_124 rfl ?_
              have hm572125 : (γ 9 3) ∈ P571918 := RS_m hT572087 ht571961 (by decide)
              obtain ⟨f572127, he572126, bf572127⟩ := show rk_14 I (F572086 (γ 9 3)) from RS_o hT572087 ht571961
              refine Gp_zald 3 hm572125 he572126 dr_cX17_look_125 rfl (gB_in bp571921'' (by decide) (by decide)) (G_nam fun z572128 hz572128 => ?_)
              have bz572128 : gB z572128 0 1 := by rw [hz572128]; exact bf572127 _
              refine G_if_ne 135 dr_cX17_look_126 (by decide +kernel) (fun hc572129 => ?_) (fun hc572129 => ?_)
              · have r572130 : z572128.toInt ≠ 0 := gj_neq hc572129 (show Int32.toInt 0 = 0 by decide)
                have bz572128' : gB z572128 1 1 := gB_t1 bz572128 r572130
                refine G_aload_n 0 dr_cX17_look_135 rfl ?_
                refine Gp_get 8 hm571937 he572092 dr_cX17_look_136 (gk_X17 D I) (Nat.le_of_ble_eq_true rfl) wr_7_82 rfl ?_
                rw [show γ 9 8 = q571923 from (congrFun (rSk_9 hs572089) 8).trans hvq571923]
                refine G_aload_n 0 dr_cX17_look_139 rfl ?_
                refine Gp_get 6 hm571937 he572092 dr_cX17_look_140 (gk_X17 D I) (Nat.le_of_ble_eq_true rfl) wr_7_80 rfl ?_
                rw [show γ 9 6 = q571924 from (congrFun (rSk_9 hs572089) 6).trans hvq571924]
                have rg572131 := rM_ge hT572087 htq571923 hf1
                have rm572132 := rM_bd hB
                have bd572133 := rBd_c hT572087 htq571923 hf1 hB
                have rc572134 := rc_at hT572087 htq571923 hf1
                have hm572140 : q571923 ∈ P571918 := RS_m hT572087 htq571923 (by decide)
                obtain ⟨q572142, q572143, p572144, p572145, he572141, ht572161, ht572146, ht572147, ht572148, ht572149, r572150, r572151, r572152, r572153, r572154, r572155, r572156, r572157, r572158, r572159, r572160⟩ := show rk_9 γ el q571923 (F572086 q571923) from RS_o hT572087 htq571923
                have bp572144 : gB p572144 0 1000000 := ⟨by omega, by omega⟩
                have bp572145 : gB p572145 0 1000000 := ⟨by omega, by omega⟩
                have hf572162 : γ 1 q572142 = f := (show γ 1 q572142 = γ 1 q571923 from ht572147).trans hf1
                have hf572163 : γ 1 q572143 = f := (show γ 1 q572143 = γ 1 q571923 from ht572149).trans hf1
                have r572164 : γ 6 (γ 1 q571923) = γ 6 f := by rw [hf1]
                have r572165 : γ 16 (γ 1 q571923) = γ 16 f := by rw [hf1]
                refine Gw_callV (As := [.ref q571924]) (gV_ok D I) (cg_189887_Code_copy l hl0 D I γ el f fo B P571918 F572086 q571923 q571924 hT572087 htq571923 htq571924 hf1 hfo1 hne hB hBk (by omega) (by omega) (by omega)) dr_cX17_look_143 ⟨wr_10_132, wr_1_15, wr_10_135, by decide, rfl, (Nat.le_of_ble_eq_true rfl), (Nat.le_of_ble_eq_true rfl)⟩ wr_10_133 wr_10_134 hm572140 he572141 rfl (rm_gc hph pk571931) (rm_gs hph pk571931) (Nat.le_of_ble_eq_true rfl) (fun r572138 w572139 dc572135 ds572136 hp572137 => ?_) (fun _ _ _ _ _ z => z.elim)
                obtain ⟨P572170, F572171, γ, el, rfl, rfl, hk572172, ⟨hr572173, hr572174⟩, hB572175, x572166, x572167, x572168, x572169⟩ := hp572137
                have hT572176 := hk572172.1
                have hs572177 := rSk_tr hs572089 hk572172 (by decide) (by decide) (by decide)
                have kp572178 : F572171 q571920 = F571987 q571920 := (rSk_F hk572172 htq571920 (by decide) (by decide)).trans kp572090
                have r572179 := rSk_F hk572172 htq571920 (by decide) (by decide)
                have ht572180 : rKd γ q571920 10 := rSk_k hk572172 htq571920 (by decide) (by decide)
                have ht572181 : rKd γ q571923 9 := rSk_k hk572172 htq571923 (by decide) (by decide)
                have hf572182 : γ 1 q571923 = f := rSk_1 hk572172 htq571923 (by decide) hf1
                have ht572183 : rKd γ q571924 9 := rSk_kf hk572172 htq571924 (by decide) (by rw [hfo1]; exact hne)
                have hf572184 : γ 1 q571924 = fo := rSk_1 hk572172 htq571924 (by decide) hfo1
                have mk572185 : mKp (F571919 q571920) (F572171 q571920) := mKp_tr mk572091 (mKp_eq (rSk_F hk572172 htq571920 (by decide) (by decide)))
                clear r572150 r572151 r572152 r572153 r572154 r572155 r572157 r572158 r572159 r572160 bp572144 bp572145 rg572131 rm572132 bd572133 rc572134
                clear r572156
                have hph572186 : rPh γ0 el0 f ≤ rPh γ el f := rm_ph hph hr572174
                have pk572187 : rPh γ el f ≤ 387 * B + 6000 := rm_pk (rM_ge hT572176 ht572181 hf572182).1 (rM_bd hB572175)
                change G _ _ _ _ _ _ _ _ _ _ _
                refine G_widen (cs' := ((rPh γ el f - rPh γ0 el0 f) / 18)) (sl' := (rPh γ el f - rPh γ0 el0 f)) (rm_wc hph hr572173) (rm_ws hph hr572174) ?_
                have r572188 := rSk_g hs572177 hne
                have r572189 : γ 6 fo = γ0 6 fo := r572188.1
                have r572190 : γ 7 fo = γ0 7 fo := r572188.2.1
                have r572191 : γ 16 fo = γ0 16 fo := r572188.2.2.1
                have r572192 : 0 < γ 6 (γ 1 q571923) := by rw [hf572182]; omega
                have r572193 : γ 6 (γ 1 q571924) = γ 6 fo := by rw [hf572184]
                refine G_aload_n 0 dr_cX17_look_146 rfl ?_
                refine G_aload_n 0 dr_cX17_look_147 rfl ?_
                have hm572194 : q571920 ∈ P572170 := RS_m hT572176 ht572180 (by decide)
                refine rk10_e (show rk_10 γ (F572171 q571920) from RS_o hT572176 ht572180) (fun q572196 q572197 p572198 p572199 p572200 p572201 p572202 p572203 p572204 p572205 p572206 p572207 p572208 p572209 p572210 p572211 p572212 he572195 hB572239 ht572213 ht572214 ht572215 ht572216 ht572217 ht572218 ht572219 ht572220 ht572221 ht572222 ht572223 ht572224 ht572225 ht572226 ht572227 ht572228 ht572229 ht572230 ht572231 ht572232 ht572233 ht572234 ht572235 ht572236 hB572240 => ?_)
                refine Gp_get 8 hm572194 he572195 dr_cX17_look_148 (gk_X17 D I) (Nat.le_of_ble_eq_true rfl) wr_7_82 rfl ?_
                rw [show γ 9 8 = q571923 from (congrFun (rSk_9 hs572177) 8).trans hvq571923]
                have rg572241 := rM_ge hT572176 ht572181 hf572182
                have rm572242 := rM_bd hB572175
                have bd572243 := rBd_c hT572176 ht572181 hf572182 hB572175
                have rc572244 := rc_at hT572176 ht572181 hf572182
                refine Gw_callV (As := [.ref q571923]) (gV_ok D I) (cg_357033_SpillForgeModel_zeros l hl0 D I γ el f B P572170 F572171 q571920 q571923 hT572176 ht572180 ht572181 hf572182 hB572175 hBk (by omega) (by omega)) dr_cX17_look_151 ⟨wr_10_152, wr_1_14, wr_10_155, by decide, rfl, (Nat.le_of_ble_eq_true rfl), (Nat.le_of_ble_eq_true rfl)⟩ wr_10_154 wr_p_93 hm572194 he572195 rfl (rm_gc hph572186 pk572187) (rm_gs hph572186 pk572187) (Nat.le_of_ble_eq_true rfl) (fun r572248 w572249 dc572245 ds572246 hp572247 => ?_) (fun _ _ _ _ _ z => z.elim)
                obtain ⟨P572255, F572256, γ, el, rfl, rfl, hk572257, ⟨hr572258, hr572259⟩, hB572260, x572250, x572251, x572252, x572253, x572254⟩ := hp572247
                have hT572261 := hk572257.1
                have hs572262 := rSk_tr hs572177 hk572257 (by decide) (by decide) (by decide)
                have ht572263 : rKd γ q571920 10 := rSk_k hk572257 ht572180 (by decide) (by decide)
                have ht572264 : rKd γ q571923 9 := rSk_k hk572257 ht572181 (by decide) (by decide)
                have hf572265 : γ 1 q571923 = f := rSk_1 hk572257 ht572181 (by decide) hf572182
                have ht572266 : rKd γ q571924 9 := rSk_kf hk572257 ht572183 (by decide) (by rw [hf572184]; exact hne)
                have hf572267 : γ 1 q571924 = fo := rSk_1 hk572257 ht572183 (by decide) hf572184
                clear rg572241 rm572242 bd572243 rc572244
                have mk572268 : mKp (F571919 q571920) (F572256 q571920) := mKp_tr mk572185 (mKp_eq x572254)
                have hph572269 : rPh γ0 el0 f ≤ rPh γ el f := rm_ph hph572186 hr572259
                have pk572270 : rPh γ el f ≤ 387 * B + 6000 := rm_pk (rM_ge hT572261 ht572264 hf572265).1 (rM_bd hB572260)
                change G _ _ _ _ _ _ _ _ _ _ _
                refine G_widen (cs' := ((rPh γ el f - rPh γ0 el0 f) / 18)) (sl' := (rPh γ el f - rPh γ0 el0 f)) (rm_wc hph572186 hr572258) (rm_ws hph572186 hr572259) ?_
                have r572271 := rSk_g hs572262 hne
                have r572272 : γ 6 fo = γ0 6 fo := r572271.1
                have r572273 : γ 7 fo = γ0 7 fo := r572271.2.1
                have r572274 : γ 16 fo = γ0 16 fo := r572271.2.2.1
                have r572275 : 0 < γ 6 (γ 1 q571923) := by rw [hf572265]; omega
                have r572276 : γ 6 (γ 1 q571924) = γ 6 fo := by rw [hf572267]
                refine G_aload_n 0 dr_cX17_look_154 rfl ?_
                refine G_aload_n 0 dr_cX17_look_155 rfl ?_
                have hm572277 : q571920 ∈ P572255 := RS_m hT572261 ht572263 (by decide)
                refine rk10_e (show rk_10 γ (F572256 q571920) from RS_o hT572261 ht572263) (fun q572279 q572280 p572281 p572282 p572283 p572284 p572285 p572286 p572287 p572288 p572289 p572290 p572291 p572292 p572293 p572294 p572295 he572278 hB572322 ht572296 ht572297 ht572298 ht572299 ht572300 ht572301 ht572302 ht572303 ht572304 ht572305 ht572306 ht572307 ht572308 ht572309 ht572310 ht572311 ht572312 ht572313 ht572314 ht572315 ht572316 ht572317 ht572318 ht572319 hB572323 => ?_)
                refine Gp_get 8 hm572277 he572278 dr_cX17_look_156 (gk_X17 D I) (Nat.le_of_ble_eq_true rfl) wr_7_82 rfl ?_
                rw [show γ 9 8 = q571923 from (congrFun (rSk_9 hs572262) 8).trans hvq571923]
                refine G_iconst 0 dr_cX17_look_159 (by decide +kernel) ?_
                refine Gw_callV (As := [.ref q571923, .int 0]) (gV_ok D I) (ct_270222_SpillForgeModel_graph l hl0 D I γ el P572255 F572256 q571920 q571923 0 hT572261 ht572263 ht572264 (gB_w (gBl (show Int32.toInt 0 = 0 by decide)) (by decide) (by decide)) (by omega)) dr_cX17_look_160 ⟨wr_10_233, wr_1_14, wr_10_236, by decide, rfl, (Nat.le_of_ble_eq_true rfl), (Nat.le_of_ble_eq_true rfl)⟩ wr_10_235 wr_p_99 hm572277 he572278 rfl (rm_zc pk572270) (rm_zs pk572270) (Nat.le_of_ble_eq_true rfl) (fun r572327 w572328 dc572324 ds572325 hp572326 => ?_) (fun _ _ _ _ _ z => z.elim)
                obtain ⟨F572331, rfl, rfl, hT572332, hs572333, hdc, hds, x572329, x572330⟩ := hp572326
                have hs572334 := rSk_str hs572262 hT572332 hs572333 (by decide) (by decide) (by decide)
                have kp572335 : F572331 q571920 = F571987 q571920 := (x572330).trans (x572254.trans kp572178)
                have mk572336 : mKp (F571919 q571920) (F572331 q571920) := mKp_tr mk572268 (mKp_eq x572330)
                have he572337 : F572331 q571920 = .inr (22, [.ref (γ 9 0), .ref (γ 9 1), .ref (γ 9 2), .ref (γ 9 3), .ref (γ 9 4), .ref (γ 9 5), .ref (γ 9 6), .ref (γ 9 7), .ref (γ 9 8), .int p572281, .int p572282, .int p572283, .int p572284, .int p572285, .int p572286, .ref (γ 9 15), .ref (γ 9 16), .ref (γ 9 17), .ref (γ 9 18), .ref (γ 9 19), .ref (γ 9 20), .ref (γ 9 21), .ref (γ 9 22), .int p572287, .int p572288, .int p572289, .int p572290, .int p572291, .ref q572279, .ref (γ 9 29), .int p572292, .ref (γ 9 31), .int p572293, .int p572294, .int p572295, .ref q572280]) := (x572330).trans he572278
                rw [show Int32.toInt 0 = 0 from by decide] at x572329
                change G _ _ _ _ _ _ _ _ _ _ _
                refine G_widen (cs' := ((rPh γ el f - rPh γ0 el0 f) / 18)) (sl' := (rPh γ el f - rPh γ0 el0 f)) (rm_d0 hdc) (rm_d0 hds) ?_
                refine G_aload_n 0 dr_cX17_look_163 rfl ?_
                refine G_aload_n 0 dr_cX17_look_164 rfl ?_
                refine Gp_get 8 hm572277 he572337 dr_cX17_look_165 (gk_X17 D I) (Nat.le_of_ble_eq_true rfl) wr_7_82 rfl ?_
                rw [show γ 9 8 = q571923 from (congrFun (rSk_9 hs572334) 8).trans hvq571923]
                refine Gw_callV (As := [.ref q571923]) (gV_ok D I) (ct_398626_SpillForgeModel_weigh l hl0 D I γ el P572255 F572331 q571920 q571923 hT572332 ht572263 ht572264 (by omega)) dr_cX17_look_168 ⟨wr_11_33, wr_1_14, wr_11_36, by decide, rfl, (Nat.le_of_ble_eq_true rfl), (Nat.le_of_ble_eq_true rfl)⟩ wr_11_35 wr_p_104 hm572277 he572337 rfl (rm_zc pk572270) (rm_zs pk572270) (Nat.le_of_ble_eq_true rfl) (fun r572341 w572342 dc572338 ds572339 hp572340 => ?_) (fun _ _ _ _ _ z => z.elim)
                obtain ⟨F572345, rfl, rfl, hT572346, hs572347, hdc, hds, x572343, x572344⟩ := hp572340
                have hs572348 := rSk_str hs572334 hT572346 hs572347 (by decide) (by decide) (by decide)
                have kp572349 : F572345 q571920 = F571987 q571920 := (x572343).trans kp572335
                have mk572350 : mKp (F571919 q571920) (F572345 q571920) := mKp_tr mk572336 (mKp_eq x572343)
                have he572351 : F572345 q571920 = .inr (22, [.ref (γ 9 0), .ref (γ 9 1), .ref (γ 9 2), .ref (γ 9 3), .ref (γ 9 4), .ref (γ 9 5), .ref (γ 9 6), .ref (γ 9 7), .ref (γ 9 8), .int p572281, .int p572282, .int p572283, .int p572284, .int p572285, .int p572286, .ref (γ 9 15), .ref (γ 9 16), .ref (γ 9 17), .ref (γ 9 18), .ref (γ 9 19), .ref (γ 9 20), .ref (γ 9 21), .ref (γ 9 22), .int p572287, .int p572288, .int p572289, .int p572290, .int p572291, .ref q572279, .ref (γ 9 29), .int p572292, .ref (γ 9 31), .int p572293, .int p572294, .int p572295, .ref q572280]) := (x572343).trans he572337
                change G _ _ _ _ _ _ _ _ _ _ _
                refine G_widen (cs' := ((rPh γ el f - rPh γ0 el0 f) / 18)) (sl' := (rPh γ el f - rPh γ0 el0 f)) (rm_d0 hdc) (rm_d0 hds) ?_
                refine G_iload_n 2 dr_cX17_look_171 rfl ?_
                refine G_if_ne 184 dr_cX17_look_172 (by decide +kernel) (fun hc572352 => ?_) (fun hc572352 => ?_)
                · have r572353 : p571922.toInt ≠ 0 := gj_neq hc572352 (show Int32.toInt 0 = 0 by decide)
                  have bp571922'''' : gB p571922 1 1 := gB_t1 bp571922''' r572353
                  refine G_aload_n 0 dr_cX17_look_184 rfl ?_
                  refine Gp_get 1 hm572277 he572351 dr_cX17_look_185 (gk_X17 D I) (Nat.le_of_ble_eq_true rfl) wr_7_75 rfl ?_
                  refine G_iload_n 1 dr_cX17_look_188 rfl ?_
                  have hm572354 : (γ 9 1) ∈ P572255 := RS_m hT572346 ht572299 (by decide)
                  obtain ⟨f572356, he572355, hg572357⟩ := show rk_13 I γ (F572345 (γ 9 1)) from RS_o hT572346 ht572299
                  obtain ⟨q572358, hx572360⟩ : ∃ x, x = γ 11 p571921.toInt.toNat := ⟨_, rfl⟩
                  have ht572359 : rKd γ q572358 36 := by rw [hx572360]; exact (hg572357 _ (show p571921.toInt.toNat < 2000 by omega)).2.1
                  refine Gp_aald 5 hm572354 he572355 dr_cX17_look_189 rfl rfl (gB_in bp571921'' (by decide) (by decide)) ?_
                  rw [show f572356 p571921.toNatClampNeg = some q572358 from (hg572357 _ (show p571921.toInt.toNat < 2000 by omega)).1.trans (by rw [hx572360])]
                  change G _ _ _ _ _ _ _ (.ref q572358 :: _) _ _ _
                  have hm572361 : q572358 ∈ P572255 := RS_m hT572346 ht572359 (by decide)
                  obtain ⟨f572363, he572362, wf572363⟩ := show rk_36 I (F572345 q572358) from RS_o hT572346 ht572359
                  refine Gw_callS (As := [.ref q572358]) (gV_ok D I) (cp_1892_SpillForgeModel_count l hl0 D I P572255 F572345 q572358 f572363 hm572361 he572362) dr_cX17_look_190 ⟨wr_11_16, wr_1_14, wr_11_18, by decide, rfl, (Nat.le_of_ble_eq_true rfl), (Nat.le_of_ble_eq_true rfl)⟩ wr_11_17 (rm_zc pk572270) (rm_zs pk572270) (Nat.le_of_ble_eq_true rfl) (fun r572367 w572368 dc572364 ds572365 hp572366 => ?_) (fun _ _ _ _ _ z => z.elim)
                  obtain ⟨o572369, rfl, rfl, hdc, hds⟩ := hp572366
                  have bo572369 := gB_any o572369
                  change G _ _ _ _ _ _ _ (.int o572369 :: _) _ _ _
                  refine G_widen (cs' := ((rPh γ el f - rPh γ0 el0 f) / 18)) (sl' := (rPh γ el f - rPh γ0 el0 f)) (rm_d0 hdc) (rm_d0 hds) ?_
                  have ac572370 : (fI (F572345 q571920) 10).toInt = (fI (F571987 q571920) 10).toInt := by rw [kp572349]
                  exact G_iretA dr_cX17_look_193 rfl (show ((rPh γ el f - rPh γ0 el0 f) / 18) ≤ (((387 * B + 6000) - rPh γ0 el0 f) / 18) by omega) (show (rPh γ el f - rPh γ0 el0 f) ≤ ((387 * B + 6000) - rPh γ0 el0 f) by omega) ⟨P572255, F572345, γ, el, o572369, rfl, rfl, hs572348, ⟨by omega, by omega⟩, hB572260, (by omega), mk572350⟩
                · have r572371 : p571922.toInt = 0 := gj_eq hc572352 (show Int32.toInt 0 = 0 by decide)
                  have bp571922'''' : gB p571922 0 0 := gB_t0 r572371
                  refine G_aload_n 0 dr_cX17_look_175 rfl ?_
                  refine Gp_get 5 hm572277 he572351 dr_cX17_look_176 (gk_X17 D I) (Nat.le_of_ble_eq_true rfl) wr_7_79 rfl ?_
                  refine G_iload_n 1 dr_cX17_look_179 rfl ?_
                  have hm572372 : (γ 9 5) ∈ P572255 := RS_m hT572346 ht572303 (by decide)
                  obtain ⟨f572374, he572373⟩ := show rk_17 I (F572345 (γ 9 5)) from RS_o hT572346 ht572303
                  refine Gp_iald 0 hm572372 he572373 dr_cX17_look_180 rfl (gB_in bp571921'' (by decide) (by decide)) (G_nam fun z572375 hz572375 => ?_)
                  have bz572375 : gB z572375 (-2147483648) 2147483647 := gB_any z572375
                  refine G_goto 193 dr_cX17_look_181 (by decide +kernel) ?_
                  have ac572376 : (fI (F572345 q571920) 10).toInt = (fI (F571987 q571920) 10).toInt := by rw [kp572349]
                  exact G_iretA dr_cX17_look_193 rfl (show ((rPh γ el f - rPh γ0 el0 f) / 18) ≤ (((387 * B + 6000) - rPh γ0 el0 f) / 18) by omega) (show (rPh γ el f - rPh γ0 el0 f) ≤ ((387 * B + 6000) - rPh γ0 el0 f) by omega) ⟨P572255, F572345, γ, el, z572375, rfl, rfl, hs572348, ⟨by omega, by omega⟩, hB572260, (by omega), mk572350⟩
              · have r572377 : z572128.toInt = 0 := gj_eq hc572129 (show Int32.toInt 0 = 0 by decide)
                have bz572128' : gB z572128 0 0 := gB_t0 r572377
                have ac572378 : (fI (F572086 q571920) 10).toInt = (fI (F571987 q571920) 10).toInt := by rw [kp572090]
                refine G_aload_n 0 dr_cX17_look_129 rfl ?_
                refine G_iconst 3 dr_cX17_look_130 (by decide +kernel) ?_
                refine Gw_callV (As := [.int 3]) (gV_ok D I) (ct_572004_SpillForgeModel_no l hl0 D I γ el P571918 F572086 q571920 3 hT572087 htq571920) dr_cX17_look_131 ⟨wr_7_191, wr_1_14, wr_7_194, by decide, rfl, (Nat.le_of_ble_eq_true rfl), (Nat.le_of_ble_eq_true rfl)⟩ wr_7_193 wr_p_73 hm571937 he572092 rfl (rm_zc pk571931) (rm_zs pk571931) (Nat.le_of_ble_eq_true rfl) (fun r572382 w572383 dc572379 ds572380 hp572381 => ?_) (fun _ _ _ _ _ z => z.elim)
                obtain ⟨F572386, rfl, rfl, hT572387, hs572388, hdc, hds, x572384, x572385⟩ := hp572381
                have hs572389 := rSk_str hs572089 hT572387 hs572388 (by decide) (by decide) (by decide)
                have mk572390 : mKp (F571919 q571920) (F572386 q571920) := mKp_tr mk572091 x572385
                change G _ _ _ _ _ _ _ (.int 0 :: _) _ _ _
                refine G_widen (cs' := ((rPh γ el f - rPh γ0 el0 f) / 18)) (sl' := (rPh γ el f - rPh γ0 el0 f)) (rm_d0 hdc) (rm_d0 hds) ?_
                exact G_iretA dr_cX17_look_134 rfl (show ((rPh γ el f - rPh γ0 el0 f) / 18) ≤ (((387 * B + 6000) - rPh γ0 el0 f) / 18) by omega) (show (rPh γ el f - rPh γ0 el0 f) ≤ ((387 * B + 6000) - rPh γ0 el0 f) by omega) ⟨P571918, F572386, γ, el, 0, rfl, rfl, hs572389, ⟨by omega, by omega⟩, hB, (by have qa0 : Int32.toInt 0 = 0 := (by decide); omega), mk572390⟩
        · have r572391 : 1 < p571922.toInt := gj_nle hc572077 (show Int32.toInt 1 = 1 by decide)
          have bp571922''' : gB p571922 2 3 := ⟨by omega, by omega⟩
          refine G_iload_n 1 dr_cX17_look_38 rfl ?_
          refine G_if_lt 53 dr_cX17_look_39 (by decide +kernel) (fun hc572392 => ?_) (fun hc572392 => ?_)
          · have r572393 : p571921.toInt < 0 := gj_lt hc572392 (show Int32.toInt 0 = 0 by decide)
            have bp571921' : gB p571921 (-2147483648) (-1) := ⟨by omega, by omega⟩
            refine G_aload_n 0 dr_cX17_look_53 rfl ?_
            refine G_iconst 3 dr_cX17_look_54 (by decide +kernel) ?_
            refine Gw_callV (As := [.int 3]) (gV_ok D I) (ct_572004_SpillForgeModel_no l hl0 D I γ el P571918 F571987 q571920 3 hT571992 htq571920) dr_cX17_look_55 ⟨wr_7_191, wr_1_14, wr_7_194, by decide, rfl, (Nat.le_of_ble_eq_true rfl), (Nat.le_of_ble_eq_true rfl)⟩ wr_7_193 wr_p_73 hm571937 he571990 rfl (rm_zc pk571931) (rm_zs pk571931) (Nat.le_of_ble_eq_true rfl) (fun r572397 w572398 dc572394 ds572395 hp572396 => ?_) (fun _ _ _ _ _ z => z.elim)
            obtain ⟨F572401, rfl, rfl, hT572402, hs572403, hdc, hds, x572399, x572400⟩ := hp572396
            have hs572404 := rSk_str hs571993 hT572402 hs572403 (by decide) (by decide) (by decide)
            have mk572405 : mKp (F571919 q571920) (F572401 q571920) := mKp_tr mk571991 x572400
            change G _ _ _ _ _ _ _ (.int 0 :: _) _ _ _
            refine G_widen (cs' := ((rPh γ el f - rPh γ0 el0 f) / 18)) (sl' := (rPh γ el f - rPh γ0 el0 f)) (rm_d0 hdc) (rm_d0 hds) ?_
            exact G_iretA dr_cX17_look_58 rfl (show ((rPh γ el f - rPh γ0 el0 f) / 18) ≤ (((387 * B + 6000) - rPh γ0 el0 f) / 18) by omega) (show (rPh γ el f - rPh γ0 el0 f) ≤ ((387 * B + 6000) - rPh γ0 el0 f) by omega) ⟨P571918, F572401, γ, el, 0, rfl, rfl, hs572404, ⟨by omega, by omega⟩, hB, (by have qa0 : Int32.toInt 0 = 0 := (by decide); omega), mk572405⟩
          · have r572406 : 0 ≤ p571921.toInt := gj_nlt hc572392 (show Int32.toInt 0 = 0 by decide)
            have bp571921' : gB p571921 0 2147483647 := ⟨by omega, by omega⟩
            refine G_iload_n 1 dr_cX17_look_42 rfl ?_
            refine G_aload_n 0 dr_cX17_look_43 rfl ?_
            refine Gp_get 6 hm571937 he571990 dr_cX17_look_44 (gk_X17 D I) (Nat.le_of_ble_eq_true rfl) wr_7_80 rfl ?_
            rw [show γ 9 6 = q571924 from (congrFun (rSk_9 hs571993) 6).trans hvq571924]
            have hm572407 : q571924 ∈ P571918 := RS_m hT571992 htq571924 (by decide)
            obtain ⟨q572409, q572410, p572411, p572412, he572408, ht572428, ht572413, ht572414, ht572415, ht572416, r572417, r572418, r572419, r572420, r572421, r572422, r572423, r572424, r572425, r572426, r572427⟩ := show rk_9 γ el q571924 (F571987 q571924) from RS_o hT571992 htq571924
            have bp572411 : gB p572411 0 1000000 := ⟨by omega, by omega⟩
            have bp572412 : gB p572412 0 1000000 := ⟨by omega, by omega⟩
            have hf572429 : γ 1 q572409 = fo := (show γ 1 q572409 = γ 1 q571924 from ht572414).trans hfo1
            have hf572430 : γ 1 q572410 = fo := (show γ 1 q572410 = γ 1 q571924 from ht572416).trans hfo1
            have r572431 : γ 6 (γ 1 q571924) = γ 6 fo := by rw [hfo1]
            have r572432 : γ 16 (γ 1 q571924) = γ 16 fo := by rw [hfo1]
            have r572433 : p572412.toInt = γ 6 fo ∧ p572412.toInt ≤ 40 := by omega
            clear r572423
            refine Gw_callV (As := []) (gV_ok D I) (cp_12496_Code_size l hl0 D I P571918 F571987 q571924 q572409 q572410 p572411 p572412 hm572407 he572408) dr_cX17_look_47 ⟨wr_10_160, wr_1_15, wr_9_131, by decide, rfl, (Nat.le_of_ble_eq_true rfl), (Nat.le_of_ble_eq_true rfl)⟩ wr_9_129 wr_9_130 hm572407 he572408 rfl (rm_zc pk571931) (rm_zs pk571931) (Nat.le_of_ble_eq_true rfl) (fun r572437 w572438 dc572434 ds572435 hp572436 => ?_) (fun _ _ _ _ _ z => z.elim)
            obtain ⟨rfl, rfl, hdc, hds⟩ := hp572436
            change G _ _ _ _ _ _ _ (.int p572412 :: _) _ _ _
            refine G_widen (cs' := ((rPh γ el f - rPh γ0 el0 f) / 18)) (sl' := (rPh γ el f - rPh γ0 el0 f)) (rm_d0 hdc) (rm_d0 hds) ?_
            refine G_icmp_lt 59 dr_cX17_look_50 (by decide +kernel) (fun hc572439 => ?_) (fun hc572439 => ?_)
            · have r572440 : p571921.toInt < p572412.toInt := gC_lt hc572439
              have bp571921'' : gB p571921 0 999999 := ⟨by omega, by omega⟩
              have bp572412' : gB p572412 1 1000000 := ⟨by omega, by omega⟩
              refine G_aload_n 0 dr_cX17_look_59 rfl ?_
              refine G_aload_n 0 dr_cX17_look_60 rfl ?_
              refine Gp_get 6 hm571937 he571990 dr_cX17_look_61 (gk_X17 D I) (Nat.le_of_ble_eq_true rfl) wr_7_80 rfl ?_
              rw [show γ 9 6 = q571924 from (congrFun (rSk_9 hs571993) 6).trans hvq571924]
              refine G_iconst 0 dr_cX17_look_64 (by decide +kernel) ?_
              refine Gw_callV (As := [.ref q571924, .int 0]) (gV_ok D I) (ct_218914_SpillForgeModel_findLive l hl0 D I γ el P571918 F571987 q571920 q571924 0 hT571992 htq571920 htq571924 (gB_w (gBl (show Int32.toInt 0 = 0 by decide)) (by decide) (by decide)) (by omega)) dr_cX17_look_65 ⟨wr_10_156, wr_1_14, wr_10_159, by decide, rfl, (Nat.le_of_ble_eq_true rfl), (Nat.le_of_ble_eq_true rfl)⟩ wr_10_158 wr_p_94 hm571937 he571990 rfl (rm_zc pk571931) (rm_zs pk571931) (Nat.le_of_ble_eq_true rfl) (fun r572444 w572445 dc572441 ds572442 hp572443 => ?_) (fun _ _ _ _ _ z => z.elim)
              obtain ⟨F572447, rfl, rfl, hT572448, hs572449, hdc, hds, x572446⟩ := hp572443
              have he572450 : F572447 q571924 = .inr (18, [.ref q572409, .ref q572410, .int p572411, .int p572412]) := (hs572449 q571924 (rT0 htq571924 (by decide)) (rT1 htq571924 (by decide)) (rT2 htq571924 (by decide))).trans he572408
              have hs572451 := rSk_str hs571993 hT572448 hs572449 (by decide) (by decide) (by decide)
              have kp572452 : F572447 q571920 = F571987 q571920 := x572446
              have mk572453 : mKp (F571919 q571920) (F572447 q571920) := mKp_tr mk571991 (mKp_eq x572446)
              have he572454 : F572447 q571920 = .inr (22, [.ref (γ 9 0), .ref (γ 9 1), .ref (γ 9 2), .ref (γ 9 3), .ref (γ 9 4), .ref (γ 9 5), .ref (γ 9 6), .ref (γ 9 7), .ref (γ 9 8), .int p571941, .int p571942, .int p571943, .int p571944, .int p571945, .int p571946, .ref (γ 9 15), .ref (γ 9 16), .ref (γ 9 17), .ref (γ 9 18), .ref (γ 9 19), .ref (γ 9 20), .ref (γ 9 21), .ref (γ 9 22), .int p571947, .int p571948, .int p571949, .int p571950, .int p571951, .ref q571939, .ref (γ 9 29), .int 0, .ref (γ 9 31), .int p571953, .int p571954, .int p571955, .ref q571940]) := (x572446).trans he571990
              change G _ _ _ _ _ _ _ _ _ _ _
              refine G_widen (cs' := ((rPh γ el f - rPh γ0 el0 f) / 18)) (sl' := (rPh γ el f - rPh γ0 el0 f)) (rm_d0 hdc) (rm_d0 hds) ?_
              refine G_aload_n 0 dr_cX17_look_68 rfl ?_
              refine G_aload_n 0 dr_cX17_look_69 rfl ?_
              refine Gp_get 6 hm571937 he572454 dr_cX17_look_70 (gk_X17 D I) (Nat.le_of_ble_eq_true rfl) wr_7_80 rfl ?_
              rw [show γ 9 6 = q571924 from (congrFun (rSk_9 hs572451) 6).trans hvq571924]
              refine Gw_callV (As := [.ref q571924]) (gV_ok D I) (ct_398679_SpillForgeModel_findDepth l hl0 D I γ el P571918 F572447 q571920 q571924 hT572448 htq571920 htq571924 (by omega)) dr_cX17_look_73 ⟨wr_11_37, wr_1_14, wr_11_40, by decide, rfl, (Nat.le_of_ble_eq_true rfl), (Nat.le_of_ble_eq_true rfl)⟩ wr_11_39 wr_p_105 hm571937 he572454 rfl (rm_zc pk571931) (rm_zs pk571931) (Nat.le_of_ble_eq_true rfl) (fun r572458 w572459 dc572455 ds572456 hp572457 => ?_) (fun _ _ _ _ _ z => z.elim)
              obtain ⟨F572462, rfl, rfl, hT572463, hs572464, hdc, hds, x572460, x572461⟩ := hp572457
              have he572465 : F572462 q571924 = .inr (18, [.ref q572409, .ref q572410, .int p572411, .int p572412]) := (hs572464 q571924 (rT0 htq571924 (by decide)) (rT1 htq571924 (by decide)) (rT2 htq571924 (by decide))).trans he572450
              have hs572466 := rSk_str hs572451 hT572463 hs572464 (by decide) (by decide) (by decide)
              have kp572467 : F572462 q571920 = F571987 q571920 := (x572460).trans kp572452
              have mk572468 : mKp (F571919 q571920) (F572462 q571920) := mKp_tr mk572453 (mKp_eq x572460)
              have he572469 : F572462 q571920 = .inr (22, [.ref (γ 9 0), .ref (γ 9 1), .ref (γ 9 2), .ref (γ 9 3), .ref (γ 9 4), .ref (γ 9 5), .ref (γ 9 6), .ref (γ 9 7), .ref (γ 9 8), .int p571941, .int p571942, .int p571943, .int p571944, .int p571945, .int p571946, .ref (γ 9 15), .ref (γ 9 16), .ref (γ 9 17), .ref (γ 9 18), .ref (γ 9 19), .ref (γ 9 20), .ref (γ 9 21), .ref (γ 9 22), .int p571947, .int p571948, .int p571949, .int p571950, .int p571951, .ref q571939, .ref (γ 9 29), .int 0, .ref (γ 9 31), .int p571953, .int p571954, .int p571955, .ref q571940]) := (x572460).trans he572454
              change G _ _ _ _ _ _ _ _ _ _ _
              refine G_widen (cs' := ((rPh γ el f - rPh γ0 el0 f) / 18)) (sl' := (rPh γ el f - rPh γ0 el0 f)) (rm_d0 hdc) (rm_d0 hds) ?_
              refine G_iload_n 2 dr_cX17_look_76 rfl ?_
              refine G_iconst 2 dr_cX17_look_77 (by decide +kernel) ?_
              refine G_icmp_ne 93 dr_cX17_look_78 (by decide +kernel) (fun hc572470 => ?_) (fun hc572470 => ?_)
              · have r572471 : p571922.toInt ≠ 2 := gj_neq hc572470 (show Int32.toInt 2 = 2 by decide)
                have bp571922'''' : gB p571922 3 3 := ⟨by omega, by omega⟩
                refine G_aload_n 0 dr_cX17_look_93 rfl ?_
                refine Gp_get 4 hm571937 he572469 dr_cX17_look_94 (gk_X17 D I) (Nat.le_of_ble_eq_true rfl) wr_7_78 rfl ?_
                refine G_iload_n 1 dr_cX17_look_97 rfl ?_
                have hm572472 : (γ 9 4) ∈ P571918 := RS_m hT572463 ht571962 (by decide)
                obtain ⟨f572474, he572473⟩ := show rk_16 I (F572462 (γ 9 4)) from RS_o hT572463 ht571962
                refine Gp_iald 0 hm572472 he572473 dr_cX17_look_98 rfl (gB_inr (by omega) (by omega)) (G_nam fun z572475 hz572475 => ?_)
                have bz572475 : gB z572475 (-2147483648) 2147483647 := gB_any z572475
                have ac572476 : (fI (F572462 q571920) 10).toInt = (fI (F571987 q571920) 10).toInt := by rw [kp572467]
                exact G_iretA dr_cX17_look_99 rfl (show ((rPh γ el f - rPh γ0 el0 f) / 18) ≤ (((387 * B + 6000) - rPh γ0 el0 f) / 18) by omega) (show (rPh γ el f - rPh γ0 el0 f) ≤ ((387 * B + 6000) - rPh γ0 el0 f) by omega) ⟨P571918, F572462, γ, el, z572475, rfl, rfl, hs572466, ⟨by omega, by omega⟩, hB, (by omega), mk572468⟩
              · have r572477 : p571922.toInt = 2 := gj_eq hc572470 (show Int32.toInt 2 = 2 by decide)
                have bp571922'''' : gB p571922 2 2 := ⟨by omega, by omega⟩
                refine G_aload_n 0 dr_cX17_look_81 rfl ?_
                refine Gp_get 0 hm571937 he572469 dr_cX17_look_82 (gk_X17 D I) (Nat.le_of_ble_eq_true rfl) wr_7_74 rfl ?_
                refine G_iload_n 1 dr_cX17_look_85 rfl ?_
                have hm572478 : (γ 9 0) ∈ P571918 := RS_m hT572463 ht571958 (by decide)
                obtain ⟨f572480, he572479, hg572481⟩ := show rk_12 I γ (F572462 (γ 9 0)) from RS_o hT572463 ht571958
                obtain ⟨q572482, hx572484⟩ : ∃ x, x = γ 10 p571921.toInt.toNat := ⟨_, rfl⟩
                have ht572483 : rKd γ q572482 11 := by rw [hx572484]; exact (hg572481 _ (show p571921.toInt.toNat < 40 by omega)).2.1
                refine Gp_aald 5 hm572478 he572479 dr_cX17_look_86 rfl rfl (gB_inr (by omega) (by omega)) ?_
                rw [show f572480 p571921.toNatClampNeg = some q572482 from (hg572481 _ (show p571921.toInt.toNat < 40 by omega)).1.trans (by rw [hx572484])]
                change G _ _ _ _ _ _ _ (.ref q572482 :: _) _ _ _
                have hm572485 : q572482 ∈ P571918 := RS_m hT572463 ht572483 (by decide)
                obtain ⟨f572487, he572486, wf572487⟩ := show rk_11 I (F572462 q572482) from RS_o hT572463 ht572483
                refine Gw_callS (As := [.ref q572482]) (gV_ok D I) (cp_1892_SpillForgeModel_count l hl0 D I P571918 F572462 q572482 f572487 hm572485 he572486) dr_cX17_look_87 ⟨wr_11_16, wr_1_14, wr_11_18, by decide, rfl, (Nat.le_of_ble_eq_true rfl), (Nat.le_of_ble_eq_true rfl)⟩ wr_11_17 (rm_zc pk571931) (rm_zs pk571931) (Nat.le_of_ble_eq_true rfl) (fun r572491 w572492 dc572488 ds572489 hp572490 => ?_) (fun _ _ _ _ _ z => z.elim)
                obtain ⟨o572493, rfl, rfl, hdc, hds⟩ := hp572490
                have bo572493 := gB_any o572493
                change G _ _ _ _ _ _ _ (.int o572493 :: _) _ _ _
                refine G_widen (cs' := ((rPh γ el f - rPh γ0 el0 f) / 18)) (sl' := (rPh γ el f - rPh γ0 el0 f)) (rm_d0 hdc) (rm_d0 hds) ?_
                refine G_goto 99 dr_cX17_look_90 (by decide +kernel) ?_
                have ac572494 : (fI (F572462 q571920) 10).toInt = (fI (F571987 q571920) 10).toInt := by rw [kp572467]
                exact G_iretA dr_cX17_look_99 rfl (show ((rPh γ el f - rPh γ0 el0 f) / 18) ≤ (((387 * B + 6000) - rPh γ0 el0 f) / 18) by omega) (show (rPh γ el f - rPh γ0 el0 f) ≤ ((387 * B + 6000) - rPh γ0 el0 f) by omega) ⟨P571918, F572462, γ, el, o572493, rfl, rfl, hs572466, ⟨by omega, by omega⟩, hB, (by omega), mk572468⟩
            · have r572495 : p572412.toInt ≤ p571921.toInt := gC_nlt hc572439
              refine G_aload_n 0 dr_cX17_look_53 rfl ?_
              refine G_iconst 3 dr_cX17_look_54 (by decide +kernel) ?_
              refine Gw_callV (As := [.int 3]) (gV_ok D I) (ct_572004_SpillForgeModel_no l hl0 D I γ el P571918 F571987 q571920 3 hT571992 htq571920) dr_cX17_look_55 ⟨wr_7_191, wr_1_14, wr_7_194, by decide, rfl, (Nat.le_of_ble_eq_true rfl), (Nat.le_of_ble_eq_true rfl)⟩ wr_7_193 wr_p_73 hm571937 he571990 rfl (rm_zc pk571931) (rm_zs pk571931) (Nat.le_of_ble_eq_true rfl) (fun r572499 w572500 dc572496 ds572497 hp572498 => ?_) (fun _ _ _ _ _ z => z.elim)
              obtain ⟨F572503, rfl, rfl, hT572504, hs572505, hdc, hds, x572501, x572502⟩ := hp572498
              have he572506 : F572503 q571924 = .inr (18, [.ref q572409, .ref q572410, .int p572411, .int p572412]) := (hs572505 q571924 (rT0 htq571924 (by decide)) (rT1 htq571924 (by decide)) (rT2 htq571924 (by decide))).trans he572408
              have hs572507 := rSk_str hs571993 hT572504 hs572505 (by decide) (by decide) (by decide)
              have mk572508 : mKp (F571919 q571920) (F572503 q571920) := mKp_tr mk571991 x572502
              change G _ _ _ _ _ _ _ (.int 0 :: _) _ _ _
              refine G_widen (cs' := ((rPh γ el f - rPh γ0 el0 f) / 18)) (sl' := (rPh γ el f - rPh γ0 el0 f)) (rm_d0 hdc) (rm_d0 hds) ?_
              exact G_iretA dr_cX17_look_58 rfl (show ((rPh γ el f - rPh γ0 el0 f) / 18) ≤ (((387 * B + 6000) - rPh γ0 el0 f) / 18) by omega) (show (rPh γ el f - rPh γ0 el0 f) ≤ ((387 * B + 6000) - rPh γ0 el0 f) by omega) ⟨P571918, F572503, γ, el, 0, rfl, rfl, hs572507, ⟨by omega, by omega⟩, hB, (by have qa0 : Int32.toInt 0 = 0 := (by decide); omega), mk572508⟩
      · have r572509 : 3 < p571922.toInt := gj_nle hc572075 (show Int32.toInt 3 = 3 by decide)
        have bp571922'' : gB p571922 4 2147483647 := ⟨by omega, by omega⟩
        refine G_aload_n 0 dr_cX17_look_27 rfl ?_
        refine G_iconst 2 dr_cX17_look_28 (by decide +kernel) ?_
        refine Gw_callV (As := [.int 2]) (gV_ok D I) (ct_572004_SpillForgeModel_no l hl0 D I γ el P571918 F571987 q571920 2 hT571992 htq571920) dr_cX17_look_29 ⟨wr_7_191, wr_1_14, wr_7_194, by decide, rfl, (Nat.le_of_ble_eq_true rfl), (Nat.le_of_ble_eq_true rfl)⟩ wr_7_193 wr_p_73 hm571937 he571990 rfl (rm_zc pk571931) (rm_zs pk571931) (Nat.le_of_ble_eq_true rfl) (fun r572513 w572514 dc572510 ds572511 hp572512 => ?_) (fun _ _ _ _ _ z => z.elim)
        obtain ⟨F572517, rfl, rfl, hT572518, hs572519, hdc, hds, x572515, x572516⟩ := hp572512
        have hs572520 := rSk_str hs571993 hT572518 hs572519 (by decide) (by decide) (by decide)
        have mk572521 : mKp (F571919 q571920) (F572517 q571920) := mKp_tr mk571991 x572516
        change G _ _ _ _ _ _ _ (.int 0 :: _) _ _ _
        refine G_widen (cs' := ((rPh γ el f - rPh γ0 el0 f) / 18)) (sl' := (rPh γ el f - rPh γ0 el0 f)) (rm_d0 hdc) (rm_d0 hds) ?_
        exact G_iretA dr_cX17_look_32 rfl (show ((rPh γ el f - rPh γ0 el0 f) / 18) ≤ (((387 * B + 6000) - rPh γ0 el0 f) / 18) by omega) (show (rPh γ el f - rPh γ0 el0 f) ≤ ((387 * B + 6000) - rPh γ0 el0 f) by omega) ⟨P571918, F572517, γ, el, 0, rfl, rfl, hs572520, ⟨by omega, by omega⟩, hB, (by have qa0 : Int32.toInt 0 = 0 := (by decide); omega), mk572521⟩
  · have r572522 : p571941.toInt = 0 := gj_eq hc571996 (show Int32.toInt 0 = 0 by decide)
    have bp571941' : gB p571941 0 0 := gB_t0 r572522
    refine G_aload_n 0 dr_cX17_look_12 rfl ?_
    refine G_iconst 1 dr_cX17_look_13 (by decide +kernel) ?_
    refine Gw_callV (As := [.int 1]) (gV_ok D I) (ct_572004_SpillForgeModel_no l hl0 D I γ el P571918 F571987 q571920 1 hT571992 htq571920) dr_cX17_look_14 ⟨wr_7_191, wr_1_14, wr_7_194, by decide, rfl, (Nat.le_of_ble_eq_true rfl), (Nat.le_of_ble_eq_true rfl)⟩ wr_7_193 wr_p_73 hm571937 he571990 rfl (rm_zc pk571931) (rm_zs pk571931) (Nat.le_of_ble_eq_true rfl) (fun r572526 w572527 dc572523 ds572524 hp572525 => ?_) (fun _ _ _ _ _ z => z.elim)
    obtain ⟨F572530, rfl, rfl, hT572531, hs572532, hdc, hds, x572528, x572529⟩ := hp572525
    have hs572533 := rSk_str hs571993 hT572531 hs572532 (by decide) (by decide) (by decide)
    have mk572534 : mKp (F571919 q571920) (F572530 q571920) := mKp_tr mk571991 x572529
    change G _ _ _ _ _ _ _ (.int 0 :: _) _ _ _
    refine G_widen (cs' := ((rPh γ el f - rPh γ0 el0 f) / 18)) (sl' := (rPh γ el f - rPh γ0 el0 f)) (rm_d0 hdc) (rm_d0 hds) ?_
    exact G_iretA dr_cX17_look_17 rfl (show ((rPh γ el f - rPh γ0 el0 f) / 18) ≤ (((387 * B + 6000) - rPh γ0 el0 f) / 18) by omega) (show (rPh γ el f - rPh γ0 el0 f) ≤ ((387 * B + 6000) - rPh γ0 el0 f) by omega) ⟨P571918, F572530, γ, el, 0, rfl, rfl, hs572533, ⟨by omega, by omega⟩, hB, (by have qa0 : Int32.toInt 0 = 0 := (by decide); omega), mk572534⟩
