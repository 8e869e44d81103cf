theorem dr_cX17_word__0 : decode cX17_word_ 0 = .ok (.aload_n 0, 1) := by decide +kernel
theorem dr_cX17_word__1 : decode cX17_word_ 1 = .ok (.iconst 0, 1) := by decide +kernel
theorem dr_cX17_word__2 : decode cX17_word_ 2 = .ok (.putfield 380, 3) := by decide +kernel
theorem dr_cX17_word__5 : decode cX17_word_ 5 = .ok (.iload_n 1, 1) := by decide +kernel
theorem dr_cX17_word__6 : decode cX17_word_ 6 = .ok (.ifCond .lt 11, 3) := by decide +kernel
theorem dr_cX17_word__17 : decode cX17_word_ 17 = .ok (.aload_n 0, 1) := by decide +kernel
theorem dr_cX17_word__18 : decode cX17_word_ 18 = .ok (.iconst 1, 1) := by decide +kernel
theorem dr_cX17_word__19 : decode cX17_word_ 19 = .ok (.invokevirtual 385, 3) := by decide +kernel
theorem dr_cX17_word__22 : decode cX17_word_ 22 = .ok (.i2l, 1) := by decide +kernel
theorem dr_cX17_word__23 : decode cX17_word_ 23 = .ok (.lreturn, 1) := by decide +kernel
theorem dr_cX17_word__9 : decode cX17_word_ 9 = .ok (.iload_n 1, 1) := by decide +kernel
theorem dr_cX17_word__10 : decode cX17_word_ 10 = .ok (.aload_n 0, 1) := by decide +kernel
theorem dr_cX17_word__11 : decode cX17_word_ 11 = .ok (.getfield 426, 3) := by decide +kernel
theorem dr_cX17_word__14 : decode cX17_word_ 14 = .ok (.if_icmp .lt 10, 3) := by decide +kernel
theorem dr_cX17_word__24 : decode cX17_word_ 24 = .ok (.lconst 0, 1) := by decide +kernel
theorem dr_cX17_word__25 : decode cX17_word_ 25 = .ok (.lstore_n 2, 1) := by decide +kernel
theorem dr_cX17_word__26 : decode cX17_word_ 26 = .ok (.iconst 0, 1) := by decide +kernel
theorem dr_cX17_word__27 : decode cX17_word_ 27 = .ok (.istore 4, 2) := by decide +kernel
theorem dr_cX17_word__29 : decode cX17_word_ 29 = .ok (.iload 4, 2) := by decide +kernel
theorem dr_cX17_word__31 : decode cX17_word_ 31 = .ok (.bipush 8, 2) := by decide +kernel
theorem dr_cX17_word__33 : decode cX17_word_ 33 = .ok (.if_icmp .ge 44, 3) := by decide +kernel
theorem dr_cX17_word__77 : decode cX17_word_ 77 = .ok (.lload_n 2, 1) := by decide +kernel
theorem dr_cX17_word__78 : decode cX17_word_ 78 = .ok (.lreturn, 1) := by decide +kernel
theorem dr_cX17_word__36 : decode cX17_word_ 36 = .ok (.lload_n 2, 1) := by decide +kernel
theorem dr_cX17_word__37 : decode cX17_word_ 37 = .ok (.bipush 8, 2) := by decide +kernel
theorem dr_cX17_word__39 : decode cX17_word_ 39 = .ok (.lshl, 1) := by decide +kernel
theorem dr_cX17_word__40 : decode cX17_word_ 40 = .ok (.iload_n 1, 1) := by decide +kernel
theorem dr_cX17_word__41 : decode cX17_word_ 41 = .ok (.iload 4, 2) := by decide +kernel
theorem dr_cX17_word__43 : decode cX17_word_ 43 = .ok (.iadd, 1) := by decide +kernel
theorem dr_cX17_word__44 : decode cX17_word_ 44 = .ok (.aload_n 0, 1) := by decide +kernel
theorem dr_cX17_word__45 : decode cX17_word_ 45 = .ok (.getfield 426, 3) := by decide +kernel
theorem dr_cX17_word__48 : decode cX17_word_ 48 = .ok (.if_icmp .ge 19, 3) := by decide +kernel
theorem dr_cX17_word__67 : decode cX17_word_ 67 = .ok (.iconst 0, 1) := by decide +kernel
theorem dr_cX17_word__68 : decode cX17_word_ 68 = .ok (.i2l, 1) := by decide +kernel
theorem dr_cX17_word__69 : decode cX17_word_ 69 = .ok (.lor, 1) := by decide +kernel
theorem dr_cX17_word__70 : decode cX17_word_ 70 = .ok (.lstore_n 2, 1) := by decide +kernel
theorem dr_cX17_word__71 : decode cX17_word_ 71 = .ok (.iinc 4 1, 3) := by decide +kernel
theorem dr_cX17_word__74 : decode cX17_word_ 74 = .ok (.goto (-45), 3) := by decide +kernel
theorem dr_cX17_word__51 : decode cX17_word_ 51 = .ok (.aload_n 0, 1) := by decide +kernel
theorem dr_cX17_word__52 : decode cX17_word_ 52 = .ok (.getfield 378, 3) := by decide +kernel
theorem wr_7_109 : (Jvm.Cond.fieldLink "SpillForgeModel" (378 : Nat) "SpillForgeModel" "result" "[B") ∈ gw := gw_7 109 rfl rfl
theorem dr_cX17_word__55 : decode cX17_word_ 55 = .ok (.iload_n 1, 1) := by decide +kernel
theorem dr_cX17_word__56 : decode cX17_word_ 56 = .ok (.iload 4, 2) := by decide +kernel
theorem dr_cX17_word__58 : decode cX17_word_ 58 = .ok (.iadd, 1) := by decide +kernel
theorem dr_cX17_word__59 : decode cX17_word_ 59 = .ok (.baload, 1) := by decide +kernel
theorem dr_cX17_word__60 : decode cX17_word_ 60 = .ok (.sipush 255, 3) := by decide +kernel
theorem dr_cX17_word__63 : decode cX17_word_ 63 = .ok (.iand, 1) := by decide +kernel
theorem dr_cX17_word__64 : decode cX17_word_ 64 = .ok (.goto 4, 3) := by decide +kernel
theorem dr_cX17_look_0 : decode cX17_look 0 = .ok (.aload_n 0, 1) := by decide +kernel
theorem dr_cX17_look_1 : decode cX17_look 1 = .ok (.iconst 0, 1) := by decide +kernel
theorem dr_cX17_look_2 : decode cX17_look 2 = .ok (.putfield 380, 3) := by decide +kernel
theorem dr_cX17_look_5 : decode cX17_look 5 = .ok (.aload_n 0, 1) := by decide +kernel
theorem dr_cX17_look_6 : decode cX17_look 6 = .ok (.getfield 414, 3) := by decide +kernel
theorem dr_cX17_look_9 : decode cX17_look 9 = .ok (.ifCond .ne 9, 3) := by decide +kernel
theorem dr_cX17_look_18 : decode cX17_look 18 = .ok (.iload_n 2, 1) := by decide +kernel
theorem dr_cX17_look_19 : decode cX17_look 19 = .ok (.ifCond .lt 8, 3) := by decide +kernel
theorem dr_cX17_look_27 : decode cX17_look 27 = .ok (.aload_n 0, 1) := by decide +kernel
theorem dr_cX17_look_28 : decode cX17_look 28 = .ok (.iconst 2, 1) := by decide +kernel
theorem dr_cX17_look_29 : decode cX17_look 29 = .ok (.invokevirtual 385, 3) := by decide +kernel
theorem dr_cX17_look_32 : decode cX17_look 32 = .ok (.ireturn, 1) := by decide +kernel
theorem dr_cX17_look_22 : decode cX17_look 22 = .ok (.iload_n 2, 1) := by decide +kernel
theorem dr_cX17_look_23 : decode cX17_look 23 = .ok (.iconst 3, 1) := by decide +kernel
theorem dr_cX17_look_24 : decode cX17_look 24 = .ok (.if_icmp .le 9, 3) := by decide +kernel
theorem dr_cX17_look_33 : decode cX17_look 33 = .ok (.iload_n 2, 1) := by decide +kernel
theorem dr_cX17_look_34 : decode cX17_look 34 = .ok (.iconst 1, 1) := by decide +kernel
theorem dr_cX17_look_35 : decode cX17_look 35 = .ok (.if_icmp .le 65, 3) := by decide +kernel
theorem dr_cX17_look_100 : decode cX17_look 100 = .ok (.aload_n 0, 1) := by decide +kernel
theorem dr_cX17_look_101 : decode cX17_look 101 = .ok (.aload_n 0, 1) := by decide +kernel
theorem dr_cX17_look_102 : decode cX17_look 102 = .ok (.getfield 361, 3) := by decide +kernel
theorem dr_cX17_look_105 : decode cX17_look 105 = .ok (.iconst 0, 1) := by decide +kernel
theorem dr_cX17_look_106 : decode cX17_look 106 = .ok (.invokevirtual 243, 3) := by decide +kernel
theorem dr_cX17_look_109 : decode cX17_look 109 = .ok (.iload_n 1, 1) := by decide +kernel
theorem dr_cX17_look_110 : decode cX17_look 110 = .ok (.ifCond .lt 19, 3) := by decide +kernel
theorem dr_cX17_look_129 : decode cX17_look 129 = .ok (.aload_n 0, 1) := by decide +kernel
theorem dr_cX17_look_130 : decode cX17_look 130 = .ok (.iconst 3, 1) := by decide +kernel
theorem dr_cX17_look_131 : decode cX17_look 131 = .ok (.invokevirtual 385, 3) := by decide +kernel
theorem dr_cX17_look_134 : decode cX17_look 134 = .ok (.ireturn, 1) := by decide +kernel
theorem dr_cX17_look_113 : decode cX17_look 113 = .ok (.iload_n 1, 1) := by decide +kernel
theorem dr_cX17_look_114 : decode cX17_look 114 = .ok (.sipush 2000, 3) := by decide +kernel
theorem dr_cX17_look_117 : decode cX17_look 117 = .ok (.if_icmp .ge 12, 3) := by decide +kernel
theorem dr_cX17_look_120 : decode cX17_look 120 = .ok (.aload_n 0, 1) := by decide +kernel
theorem dr_cX17_look_121 : decode cX17_look 121 = .ok (.getfield 131, 3) := by decide +kernel
theorem dr_cX17_look_124 : decode cX17_look 124 = .ok (.iload_n 1, 1) := by decide +kernel
theorem dr_cX17_look_125 : decode cX17_look 125 = .ok (.baload, 1) := by decide +kernel
theorem dr_cX17_look_126 : decode cX17_look 126 = .ok (.ifCond .ne 9, 3) := by decide +kernel
theorem dr_cX17_look_135 : decode cX17_look 135 = .ok (.aload_n 0, 1) := by decide +kernel
theorem dr_cX17_look_136 : decode cX17_look 136 = .ok (.getfield 368, 3) := by decide +kernel
theorem wr_7_82 : (Jvm.Cond.fieldLink "SpillForgeModel" (368 : Nat) "SpillForgeModel" "spare" "LSpillForgeModel$Code;") ∈ gw := gw_7 82 rfl rfl
theorem dr_cX17_look_139 : decode cX17_look 139 = .ok (.aload_n 0, 1) := by decide +kernel
theorem dr_cX17_look_140 : decode cX17_look 140 = .ok (.getfield 361, 3) := by decide +kernel
theorem dr_cX17_look_143 : decode cX17_look 143 = .ok (.invokevirtual 419, 3) := by decide +kernel
theorem wr_10_132 : (Jvm.Cond.methodLink "SpillForgeModel" (419 : Nat) ({ cls := "SpillForgeModel$Code", name := "copy", desc := "(LSpillForgeModel$Code;)V" } : Jvm.MethodName)) ∈ gw := gw_10 132 rfl rfl
theorem wr_10_135 : (Jvm.Cond.code ({ cls := "SpillForgeModel$Code", name := "copy", desc := "(LSpillForgeModel$Code;)V" } : Jvm.MethodName) prog_16_method_9_code (7 : Nat) (Option.none : Option Jvm.ClassFile.FieldType)) ∈ gw := gw_10 135 rfl rfl
theorem wr_10_133 : (Jvm.Cond.instanceMethod ({ cls := "SpillForgeModel$Code", name := "copy", desc := "(LSpillForgeModel$Code;)V" } : Jvm.MethodName)) ∈ gw := gw_10 133 rfl rfl
theorem wr_10_134 : (Jvm.Cond.selects "SpillForgeModel$Code" ({ cls := "SpillForgeModel$Code", name := "copy", desc := "(LSpillForgeModel$Code;)V" } : Jvm.MethodName) ({ cls := "SpillForgeModel$Code", name := "copy", desc := "(LSpillForgeModel$Code;)V" } : Jvm.MethodName)) ∈ gw := gw_10 134 rfl rfl
theorem dr_cX17_look_146 : decode cX17_look 146 = .ok (.aload_n 0, 1) := by decide +kernel
theorem dr_cX17_look_147 : decode cX17_look 147 = .ok (.aload_n 0, 1) := by decide +kernel
theorem dr_cX17_look_148 : decode cX17_look 148 = .ok (.getfield 368, 3) := by decide +kernel
theorem dr_cX17_look_151 : decode cX17_look 151 = .ok (.invokevirtual 240, 3) := by decide +kernel
theorem wr_10_152 : (Jvm.Cond.methodLink "SpillForgeModel" (240 : Nat) ({ cls := "SpillForgeModel", name := "zeros", desc := "(LSpillForgeModel$Code;)V" } : Jvm.MethodName)) ∈ gw := gw_10 152 rfl rfl
theorem wr_10_155 : (Jvm.Cond.code ({ cls := "SpillForgeModel", name := "zeros", desc := "(LSpillForgeModel$Code;)V" } : Jvm.MethodName) prog_14_method_16_code (5 : Nat) (Option.none : Option Jvm.ClassFile.FieldType)) ∈ gw := gw_10 155 rfl rfl
theorem wr_10_154 : (Jvm.Cond.instanceMethod ({ cls := "SpillForgeModel", name := "zeros", desc := "(LSpillForgeModel$Code;)V" } : Jvm.MethodName)) ∈ gw := gw_10 154 rfl rfl
theorem wr_p_93 : Cond.selects "SpillForgeModel" ⟨"SpillForgeModel", "zeros", "(LSpillForgeModel$Code;)V"⟩ ⟨"SpillForgeModel", "zeros", "(LSpillForgeModel$Code;)V"⟩ ∈ gw := gw_p _ 93 rfl rfl rfl
theorem dr_cX17_look_154 : decode cX17_look 154 = .ok (.aload_n 0, 1) := by decide +kernel
theorem dr_cX17_look_155 : decode cX17_look 155 = .ok (.aload_n 0, 1) := by decide +kernel
theorem dr_cX17_look_156 : decode cX17_look 156 = .ok (.getfield 368, 3) := by decide +kernel
theorem dr_cX17_look_159 : decode cX17_look 159 = .ok (.iconst 0, 1) := by decide +kernel
theorem dr_cX17_look_160 : decode cX17_look 160 = .ok (.invokevirtual 243, 3) := by decide +kernel
theorem dr_cX17_look_163 : decode cX17_look 163 = .ok (.aload_n 0, 1) := by decide +kernel
theorem dr_cX17_look_164 : decode cX17_look 164 = .ok (.aload_n 0, 1) := by decide +kernel
theorem dr_cX17_look_165 : decode cX17_look 165 = .ok (.getfield 368, 3) := by decide +kernel
theorem dr_cX17_look_168 : decode cX17_look 168 = .ok (.invokevirtual 250, 3) := by decide +kernel
theorem wr_11_33 : (Jvm.Cond.methodLink "SpillForgeModel" (250 : Nat) ({ cls := "SpillForgeModel", name := "weigh", desc := "(LSpillForgeModel$Code;)V" } : Jvm.MethodName)) ∈ gw := gw_11 33 rfl rfl
theorem wr_11_36 : (Jvm.Cond.code ({ cls := "SpillForgeModel", name := "weigh", desc := "(LSpillForgeModel$Code;)V" } : Jvm.MethodName) prog_14_method_15_code (7 : Nat) (Option.none : Option Jvm.ClassFile.FieldType)) ∈ gw := gw_11 36 rfl rfl
theorem wr_11_35 : (Jvm.Cond.instanceMethod ({ cls := "SpillForgeModel", name := "weigh", desc := "(LSpillForgeModel$Code;)V" } : Jvm.MethodName)) ∈ gw := gw_11 35 rfl rfl
theorem wr_p_104 : Cond.selects "SpillForgeModel" ⟨"SpillForgeModel", "weigh", "(LSpillForgeModel$Code;)V"⟩ ⟨"SpillForgeModel", "weigh", "(LSpillForgeModel$Code;)V"⟩ ∈ gw := gw_p _ 104 rfl rfl rfl
theorem dr_cX17_look_171 : decode cX17_look 171 = .ok (.iload_n 2, 1) := by decide +kernel
theorem dr_cX17_look_172 : decode cX17_look 172 = .ok (.ifCond .ne 12, 3) := by decide +kernel
theorem dr_cX17_look_184 : decode cX17_look 184 = .ok (.aload_n 0, 1) := by decide +kernel
theorem dr_cX17_look_185 : decode cX17_look 185 = .ok (.getfield 135, 3) := by decide +kernel
theorem dr_cX17_look_188 : decode cX17_look 188 = .ok (.iload_n 1, 1) := by decide +kernel
theorem dr_cX17_look_189 : decode cX17_look 189 = .ok (.aaload, 1) := by decide +kernel
theorem dr_cX17_look_190 : decode cX17_look 190 = .ok (.invokestatic 202, 3) := by decide +kernel
theorem dr_cX17_look_193 : decode cX17_look 193 = .ok (.ireturn, 1) := by decide +kernel
theorem dr_cX17_look_175 : decode cX17_look 175 = .ok (.aload_n 0, 1) := by decide +kernel
theorem dr_cX17_look_176 : decode cX17_look 176 = .ok (.getfield 174, 3) := by decide +kernel
theorem dr_cX17_look_179 : decode cX17_look 179 = .ok (.iload_n 1, 1) := by decide +kernel
theorem dr_cX17_look_180 : decode cX17_look 180 = .ok (.iaload, 1) := by decide +kernel
theorem dr_cX17_look_181 : decode cX17_look 181 = .ok (.goto 12, 3) := by decide +kernel
theorem dr_cX17_look_38 : decode cX17_look 38 = .ok (.iload_n 1, 1) := by decide +kernel
theorem dr_cX17_look_39 : decode cX17_look 39 = .ok (.ifCond .lt 14, 3) := by decide +kernel
theorem dr_cX17_look_53 : decode cX17_look 53 = .ok (.aload_n 0, 1) := by decide +kernel
theorem dr_cX17_look_54 : decode cX17_look 54 = .ok (.iconst 3, 1) := by decide +kernel
theorem dr_cX17_look_55 : decode cX17_look 55 = .ok (.invokevirtual 385, 3) := by decide +kernel
theorem dr_cX17_look_58 : decode cX17_look 58 = .ok (.ireturn, 1) := by decide +kernel
theorem dr_cX17_look_42 : decode cX17_look 42 = .ok (.iload_n 1, 1) := by decide +kernel
theorem dr_cX17_look_43 : decode cX17_look 43 = .ok (.aload_n 0, 1) := by decide +kernel
theorem dr_cX17_look_44 : decode cX17_look 44 = .ok (.getfield 361, 3) := by decide +kernel
theorem dr_cX17_look_47 : decode cX17_look 47 = .ok (.invokevirtual 96, 3) := by decide +kernel
theorem dr_cX17_look_50 : decode cX17_look 50 = .ok (.if_icmp .lt 9, 3) := by decide +kernel
theorem dr_cX17_look_59 : decode cX17_look 59 = .ok (.aload_n 0, 1) := by decide +kernel
theorem dr_cX17_look_60 : decode cX17_look 60 = .ok (.aload_n 0, 1) := by decide +kernel
theorem dr_cX17_look_61 : decode cX17_look 61 = .ok (.getfield 361, 3) := by decide +kernel
theorem dr_cX17_look_64 : decode cX17_look 64 = .ok (.iconst 0, 1) := by decide +kernel
theorem dr_cX17_look_65 : decode cX17_look 65 = .ok (.invokevirtual 127, 3) := by decide +kernel
theorem dr_cX17_look_68 : decode cX17_look 68 = .ok (.aload_n 0, 1) := by decide +kernel
theorem dr_cX17_look_69 : decode cX17_look 69 = .ok (.aload_n 0, 1) := by decide +kernel
theorem dr_cX17_look_70 : decode cX17_look 70 = .ok (.getfield 361, 3) := by decide +kernel
theorem dr_cX17_look_73 : decode cX17_look 73 = .ok (.invokevirtual 170, 3) := by decide +kernel
theorem dr_cX17_look_76 : decode cX17_look 76 = .ok (.iload_n 2, 1) := by decide +kernel
theorem dr_cX17_look_77 : decode cX17_look 77 = .ok (.iconst 2, 1) := by decide +kernel
theorem dr_cX17_look_78 : decode cX17_look 78 = .ok (.if_icmp .ne 15, 3) := by decide +kernel
theorem dr_cX17_look_93 : decode cX17_look 93 = .ok (.aload_n 0, 1) := by decide +kernel
theorem dr_cX17_look_94 : decode cX17_look 94 = .ok (.getfield 152, 3) := by decide +kernel
theorem dr_cX17_look_97 : decode cX17_look 97 = .ok (.iload_n 1, 1) := by decide +kernel
theorem dr_cX17_look_98 : decode cX17_look 98 = .ok (.iaload, 1) := by decide +kernel
theorem dr_cX17_look_99 : decode cX17_look 99 = .ok (.ireturn, 1) := by decide +kernel
theorem dr_cX17_look_81 : decode cX17_look 81 = .ok (.aload_n 0, 1) := by decide +kernel
theorem dr_cX17_look_82 : decode cX17_look 82 = .ok (.getfield 88, 3) := by decide +kernel
theorem dr_cX17_look_85 : decode cX17_look 85 = .ok (.iload_n 1, 1) := by decide +kernel
theorem dr_cX17_look_86 : decode cX17_look 86 = .ok (.aaload, 1) := by decide +kernel
theorem dr_cX17_look_87 : decode cX17_look 87 = .ok (.invokestatic 202, 3) := by decide +kernel
theorem dr_cX17_look_90 : decode cX17_look 90 = .ok (.goto 9, 3) := by decide +kernel
theorem dr_cX17_look_12 : decode cX17_look 12 = .ok (.aload_n 0, 1) := by decide +kernel
theorem dr_cX17_look_13 : decode cX17_look 13 = .ok (.iconst 1, 1) := by decide +kernel
theorem dr_cX17_look_14 : decode cX17_look 14 = .ok (.invokevirtual 385, 3) := by decide +kernel
theorem dr_cX17_look_17 : decode cX17_look 17 = .ok (.ireturn, 1) := by decide +kernel
abbrev ky_586489_SpillForgeModel_word : gKey := (cX17_word_, 5, "SpillForgeModel", (some FieldType.long), [], "word", fun _ _ => True)
def pt_586489_SpillForgeModel_word (D : va_G) (I : FieldType → ClassId) (γ el : Nat → Nat → Nat) (P586485 : List Nat) (F586486 : Nat → va_E) (q586487 : Nat) (p586488 : Int32) : Option Value → va_W → Nat → Nat → Prop := fun r w dc ds => ∃ (F586843 : Nat → va_E) (ol586842 : Int64), r = some (.long ol586842) ∧ w = va_pl P586485 F586843 ∧ RS D I P586485 F586843 γ el ∧ rStr γ [] F586486 F586843 ∧ dc ≤ 0 ∧ ds ≤ 0 ∧ (fI (F586843 q586487) 9).toInt = (fI (F586486 q586487) 9).toInt ∧ (fI (F586843 q586487) 10).toInt = (fI (F586486 q586487) 10).toInt ∧ (fI (F586843 q586487) 32).toInt = (fI (F586486 q586487) 32).toInt
set_option maxRecDepth 100000 in
set_option maxHeartbeats 4000000 in
theorem ct_586489_SpillForgeModel_word (l : Launch) (hl0 : l.stackTraces = false) (D : va_G) (I : FieldType → ClassId) (γ el : Nat → Nat → Nat) (P586485 : List Nat) (F586486 : Nat → va_E) (q586487 : Nat) (p586488 : Int32) (hT : RS D I P586485 F586486 γ el) (htq586487 : rKd γ q586487 10) : CtA (gV D I) l yX17_word_ cX17_word_ 5 (some FieldType.long) 1 21 0 0 [.ref q586487, .int p586488] (va_pl P586485 F586486) (pt_586489_SpillForgeModel_word D I γ el P586485 F586486 q586487 p586488) gNA := by
  refine CtA_of hl0 (by decide) (Nat.le_of_ble_eq_true rfl) ?_
  have bp586488 := gB_any p586488
  have hm586490 : q586487 ∈ P586485 := RS_m hT htq586487 (by decide)
  refine rk10_e (show rk_10 γ (F586486 q586487) from RS_o hT htq586487) (fun q586492 q586493 p586494 p586495 p586496 p586497 p586498 p586499 p586500 p586501 p586502 p586503 p586504 p586505 p586506 p586507 p586508 he586491 hB586535 ht586509 ht586510 ht586511 ht586512 ht586513 ht586514 ht586515 ht586516 ht586517 ht586518 ht586519 ht586520 ht586521 ht586522 ht586523 ht586524 ht586525 ht586526 ht586527 ht586528 ht586529 ht586530 ht586531 ht586532 hB586536 => ?_)
  have ac586537 : (fI (F586486 q586487) 9).toInt = p586494.toInt := by rw [he586491]; rfl
  have bp586494 : gB p586494 0 1 := (hB586535.1)
  have ac586538 : (fI (F586486 q586487) 10).toInt = p586495.toInt := by rw [he586491]; rfl
  have bp586495 : gB p586495 0 1 := (hB586535.2.1)
  have ac586539 : (fI (F586486 q586487) 32).toInt = p586506.toInt := by rw [he586491]; rfl
  have bp586506 : gB p586506 0 8192 := (hB586535.2.2.2.2.2.2.2.1)
  have fq586540 : γ 6 (γ 1 (γ 9 6)) = γ 6 0 := by rw [show γ 1 (γ 9 6) = 0 from ht586530]
  have fq586541 : γ 6 (γ 1 (γ 9 7)) = γ 6 1 := by rw [show γ 1 (γ 9 7) = 1 from ht586531]
  have fq586542 : γ 6 (γ 1 (γ 9 8)) = γ 6 2 := by rw [show γ 1 (γ 9 8) = 2 from ht586532]
  have r586543 : p586508.toInt ≤ γ 12 q586493 := by have z := hB586536; unfold rM2 at z; exact z.2.2
  refine G_aload_n 0 dr_cX17_word__0 rfl ?_
  refine G_iconst 0 dr_cX17_word__1 (by decide +kernel) ?_
  refine Gp_put 30 hm586490 he586491 dr_cX17_word__2 (gk_X17 D I) (Nat.le_of_ble_eq_true rfl) wr_7_104 rfl rfl rfl (Nat.le_of_ble_eq_true rfl) (fun F586544 e586545 n586546 => ?_)
  have he586547 : F586544 q586487 = .inr (22, [.ref (γ 9 0), .ref (γ 9 1), .ref (γ 9 2), .ref (γ 9 3), .ref (γ 9 4), .ref (γ 9 5), .ref (γ 9 6), .ref (γ 9 7), .ref (γ 9 8), .int p586494, .int p586495, .int p586496, .int p586497, .int p586498, .int p586499, .ref (γ 9 15), .ref (γ 9 16), .ref (γ 9 17), .ref (γ 9 18), .ref (γ 9 19), .ref (γ 9 20), .ref (γ 9 21), .ref (γ 9 22), .int p586500, .int p586501, .int p586502, .int p586503, .int p586504, .ref q586492, .ref (γ 9 29), .int 0, .ref (γ 9 31), .int p586506, .int p586507, .int p586508, .ref q586493]) := e586545
  have hs586548 : rStr γ [] F586486 F586544 := rStr_put (rStr_rf (γ := γ) (W := []) (F := F586486)) n586546 htq586487 (by decide)
  refine G_iload_n 1 dr_cX17_word__5 rfl ?_
  refine G_if_lt 17 dr_cX17_word__6 (by decide +kernel) (fun hc586549 => ?_) (fun hc586549 => ?_)
  · have r586550 : p586488.toInt < 0 := gj_lt hc586549 (show Int32.toInt 0 = 0 by decide)
    have bp586488' : gB p586488 (-2147483648) (-1) := ⟨by omega, by omega⟩
    refine G_aload_n 0 dr_cX17_word__17 rfl ?_
    refine G_iconst 1 dr_cX17_word__18 (by decide +kernel) ?_
    have hT586551 : RS D I P586485 F586544 γ el := RS_set hT n586546 htq586487 (by decide) ⟨q586492, q586493, p586494, p586495, p586496, p586497, p586498, p586499, p586500, p586501, p586502, p586503, p586504, 0, p586506, p586507, p586508, he586547, ⟨bp586494, bp586495, (hB586535.2.2.1), (hB586535.2.2.2.1), (hB586535.2.2.2.2.1), (hB586535.2.2.2.2.2.1), (hB586535.2.2.2.2.2.2.1), bp586506, (hB586535.2.2.2.2.2.2.2.2)⟩, ht586509, ht586510, ht586511, ht586512, ht586513, ht586514, ht586515, ht586516, ht586517, ht586518, ht586519, ht586520, ht586521, ht586522, ht586523, ht586524, ht586525, ht586526, ht586527, ht586528, ht586529, ht586530, ht586531, ht586532, hB586536⟩
    have ac586552 : (fI (F586544 q586487) 9).toInt = p586494.toInt := by rw [he586547]; rfl
    have ac586553 : (fI (F586544 q586487) 10).toInt = p586495.toInt := by rw [he586547]; rfl
    have ac586554 : (fI (F586544 q586487) 32).toInt = p586506.toInt := by rw [he586547]; rfl
    refine Gw_callV (As := [.int 1]) (gV_ok D I) (ct_578426_SpillForgeModel_no l hl0 D I γ el P586485 F586544 q586487 1 hT586551 htq586487) dr_cX17_word__19 ⟨wr_7_191, wr_1_14, wr_7_194, by decide, rfl, (Nat.le_of_ble_eq_true rfl), (Nat.le_of_ble_eq_true rfl)⟩ wr_7_193 wr_p_73 hm586490 he586547 rfl (show 0 + 0 ≤ 0 by first | omega | decide) (show 0 + 0 ≤ 0 by first | omega | decide) (Nat.le_of_ble_eq_true rfl) (fun r586558 w586559 dc586555 ds586556 hp586557 => ?_) (fun _ _ _ _ _ z => z.elim)
    obtain ⟨F586564, rfl, rfl, hT586565, hs586566, hdc, hds, x586560, x586561, x586562, x586563⟩ := hp586557
    have hs586567 : rStr γ [] F586486 F586564 := rStr_tr hs586548 hs586566
    rw [show Int32.toInt 1 = 1 from by decide] at x586563
    change G _ _ _ _ _ _ _ (.int 0 :: _) _ _ _
    refine G_widen (cs' := 0) (sl' := 0) (by omega) (by omega) ?_
    refine G_i2l dr_cX17_word__22 (G_namL fun u586568 hu586568 => ?_)
    have hm586569 : q586487 ∈ P586485 := RS_m hT586565 htq586487 (by decide)
    refine rk10_e (show rk_10 γ (F586564 q586487) from RS_o hT586565 htq586487) (fun q586571 q586572 p586573 p586574 p586575 p586576 p586577 p586578 p586579 p586580 p586581 p586582 p586583 p586584 p586585 p586586 p586587 he586570 hB586614 ht586588 ht586589 ht586590 ht586591 ht586592 ht586593 ht586594 ht586595 ht586596 ht586597 ht586598 ht586599 ht586600 ht586601 ht586602 ht586603 ht586604 ht586605 ht586606 ht586607 ht586608 ht586609 ht586610 ht586611 hB586615 => ?_)
    have ac586616 : (fI (F586564 q586487) 9).toInt = p586573.toInt := by rw [he586570]; rfl
    have bp586573 : gB p586573 0 1 := (hB586614.1)
    have ac586617 : (fI (F586564 q586487) 10).toInt = p586574.toInt := by rw [he586570]; rfl
    have bp586574 : gB p586574 0 1 := (hB586614.2.1)
    have ac586618 : (fI (F586564 q586487) 32).toInt = p586585.toInt := by rw [he586570]; rfl
    have bp586585 : gB p586585 0 8192 := (hB586614.2.2.2.2.2.2.2.1)
    have ac586619 : (fI (F586564 q586487) 9).toInt = p586573.toInt := by rw [he586570]; rfl
    have ac586620 : (fI (F586564 q586487) 10).toInt = p586574.toInt := by rw [he586570]; rfl
    have ac586621 : (fI (F586564 q586487) 32).toInt = p586585.toInt := by rw [he586570]; rfl
    exact G_lretA dr_cX17_word__23 rfl (Nat.le_of_ble_eq_true rfl) (Nat.le_of_ble_eq_true rfl) ⟨F586564, u586568, rfl, rfl, hT586565, hs586567, (Nat.le_of_ble_eq_true rfl), (Nat.le_of_ble_eq_true rfl), (by omega), (by omega), (by omega)⟩
  · have r586622 : 0 ≤ p586488.toInt := gj_nlt hc586549 (show Int32.toInt 0 = 0 by decide)
    have bp586488' : gB p586488 0 2147483647 := ⟨by omega, by omega⟩
    refine G_iload_n 1 dr_cX17_word__9 rfl ?_
    refine G_aload_n 0 dr_cX17_word__10 rfl ?_
    refine Gp_get 34 hm586490 he586547 dr_cX17_word__11 (gk_X17 D I) (Nat.le_of_ble_eq_true rfl) wr_7_108 rfl ?_
    have bp586508 : gB p586508 0 16777216 := (hB586535.2.2.2.2.2.2.2.2)
    refine G_icmp_lt 24 dr_cX17_word__14 (by decide +kernel) (fun hc586623 => ?_) (fun hc586623 => ?_)
    · have r586624 : p586488.toInt < p586508.toInt := gC_lt hc586623
      have bp586488'' : gB p586488 0 16777215 := ⟨by omega, by omega⟩
      have bp586508' : gB p586508 1 16777216 := ⟨by omega, by omega⟩
      refine G_lconst 0 dr_cX17_word__24 rfl ?_
      refine G_lstore_n (L' := [(2, .long 0), (0, .ref q586487), (1, .int p586488)]) dr_cX17_word__25 (Nat.le_of_ble_eq_true rfl) rfl ?_
      refine G_iconst 0 dr_cX17_word__26 (by decide +kernel) ?_
      refine G_istore (L' := [(4, .int 0), (2, .long 0), (0, .ref q586487), (1, .int p586488)]) dr_cX17_word__27 (Nat.le_of_ble_eq_true rfl) rfl ?_
      have hT586625 : RS D I P586485 F586544 γ el := RS_set hT n586546 htq586487 (by decide) ⟨q586492, q586493, p586494, p586495, p586496, p586497, p586498, p586499, p586500, p586501, p586502, p586503, p586504, 0, p586506, p586507, p586508, he586547, ⟨bp586494, bp586495, (hB586535.2.2.1), (hB586535.2.2.2.1), (hB586535.2.2.2.2.1), (hB586535.2.2.2.2.2.1), (hB586535.2.2.2.2.2.2.1), bp586506, (gB_w bp586508' (by decide) (by decide))⟩, ht586509, ht586510, ht586511, ht586512, ht586513, ht586514, ht586515, ht586516, ht586517, ht586518, ht586519, ht586520, ht586521, ht586522, ht586523, ht586524, ht586525, ht586526, ht586527, ht586528, ht586529, ht586530, ht586531, ht586532, hB586536⟩
      have hlp29_586735 : ∀ (n29_586735 : Nat) (g586734 : Int32) (gl586735 : Int64), gB g586734 0 8 → ((9 : Int) - g586734.toInt).toNat < n29_586735 → G (gV D I) l (gRm 1 21 0 0) (gMA (gV D I) (pt_586489_SpillForgeModel_word D I γ el P586485 F586486 q586487 p586488) gNA 0 0) ky_586489_SpillForgeModel_word 29 [(4, .int g586734), (2, .long gl586735), (0, .ref q586487), (1, .int p586488)] [] (va_pl P586485 F586544) 0 0 := by
        intro n29_586735
        induction n29_586735 with
        | zero => intro g586734 gl586735 bg586734 hm29_586735; exact absurd hm29_586735 (Nat.not_lt_zero _)
        | succ n29_586735 ih29_586735 =>
          intro g586734 gl586735 bg586734 hm29_586735
          refine G_iload 0 dr_cX17_word__29 rfl ?_
          refine G_bipush 8 dr_cX17_word__31 (by decide +kernel) ?_
          refine G_icmp_ge 77 dr_cX17_word__33 (by decide +kernel) (fun hc586737 => ?_) (fun hc586737 => ?_)
          · have r586738 : 8 ≤ g586734.toInt := gj_leL hc586737 (show Int32.toInt 8 = 8 by decide)
            have bg586734' : gB g586734 8 8 := ⟨by omega, by omega⟩
            refine G_lload_n 1 dr_cX17_word__77 rfl ?_
            have ac586739 : (fI (F586544 q586487) 9).toInt = p586494.toInt := by rw [he586547]; rfl
            have ac586740 : (fI (F586544 q586487) 10).toInt = p586495.toInt := by rw [he586547]; rfl
            have ac586741 : (fI (F586544 q586487) 32).toInt = p586506.toInt := by rw [he586547]; rfl
            exact G_lretA dr_cX17_word__78 rfl (Nat.le_of_ble_eq_true rfl) (Nat.le_of_ble_eq_true rfl) ⟨F586544, gl586735, rfl, rfl, hT586625, hs586548, (Nat.le_of_ble_eq_true rfl), (Nat.le_of_ble_eq_true rfl), (by omega), (by omega), (by omega)⟩
          · have r586742 : g586734.toInt < 8 := gj_nleL hc586737 (show Int32.toInt 8 = 8 by decide)
            have bg586734' : gB g586734 0 7 := ⟨by omega, by omega⟩
            refine G_lload_n 1 dr_cX17_word__36 rfl ?_
            refine G_bipush 8 dr_cX17_word__37 (by decide +kernel) ?_
            refine G_lshl dr_cX17_word__39 (G_namL fun u586743 hu586743 => ?_)
            refine G_iload_n 3 dr_cX17_word__40 rfl ?_
            refine G_iload 0 dr_cX17_word__41 rfl ?_
            refine G_iadd dr_cX17_word__43 (G_nam fun z586744 hz586744 => ?_)
            have ez586744 : z586744.toInt = p586488.toInt + g586734.toInt := by rw [gI_add hz586744 bp586488'' bg586734' (by decide) (by decide)]
            have bz586744 : gB z586744 0 16777222 := gB_add (gI_add hz586744 bp586488'' bg586734' (by decide) (by decide)) bp586488'' bg586734' (by decide) (by decide)
            refine G_aload_n 2 dr_cX17_word__44 rfl ?_
            refine Gp_get 34 hm586490 he586547 dr_cX17_word__45 (gk_X17 D I) (Nat.le_of_ble_eq_true rfl) wr_7_108 rfl ?_
            refine G_icmp_ge 67 dr_cX17_word__48 (by decide +kernel) (fun hc586745 => ?_) (fun hc586745 => ?_)
            · have r586746 : p586508.toInt ≤ z586744.toInt := gC_le hc586745
              have bz586744' : gB z586744 1 16777222 := ⟨by omega, by omega⟩
              refine G_iconst 0 dr_cX17_word__67 (by decide +kernel) ?_
              refine G_i2l dr_cX17_word__68 (G_namL fun u586747 hu586747 => ?_)
              refine G_lor dr_cX17_word__69 (G_namL fun u586748 hu586748 => ?_)
              refine G_lstore_n (L' := [(2, .long u586748), (4, .int g586734), (0, .ref q586487), (1, .int p586488)]) dr_cX17_word__70 (Nat.le_of_ble_eq_true rfl) rfl ?_
              obtain ⟨z586749, hz586749⟩ : ∃ z : Int32, z = g586734 + Int32.ofInt 1 := ⟨_, rfl⟩
              have ez586749 : z586749.toInt = g586734.toInt + 1 := gI_inc hz586749 (by decide) bg586734' (by decide) (by decide)
              have bz586749 : gB z586749 1 8 := ⟨by omega, by omega⟩
              refine G_iinc (L' := [(4, .int z586749), (2, .long u586748), (0, .ref q586487), (1, .int p586488)]) z586749 1 dr_cX17_word__71 rfl hz586749.symm (Nat.le_of_ble_eq_true rfl) rfl ?_
              refine G_goto 29 dr_cX17_word__74 (by decide +kernel) ?_
              have ac586750 : (fI (F586544 q586487) 9).toInt = p586494.toInt := by rw [he586547]; rfl
              have ac586751 : (fI (F586544 q586487) 10).toInt = p586495.toInt := by rw [he586547]; rfl
              have ac586752 : (fI (F586544 q586487) 32).toInt = p586506.toInt := by rw [he586547]; rfl
              exact ih29_586735 z586749 u586748 (gB_w bz586749 (by decide) (by decide)) (mz_up ez586749 (Int.le_trans bg586734'.2 (by decide)) hm29_586735)
            · have r586753 : z586744.toInt < p586508.toInt := gC_nle hc586745
              have bz586744' : gB z586744 0 16777215 := ⟨by omega, by omega⟩
              refine G_aload_n 2 dr_cX17_word__51 rfl ?_
              refine Gp_get 35 hm586490 he586547 dr_cX17_word__52 (gk_X17 D I) (Nat.le_of_ble_eq_true rfl) wr_7_109 rfl ?_
              refine G_iload_n 3 dr_cX17_word__55 rfl ?_
              refine G_iload 0 dr_cX17_word__56 rfl ?_
              refine G_iadd dr_cX17_word__58 (G_nam fun z586754 hz586754 => ?_)
              have ez586754 : z586754.toInt = p586488.toInt + g586734.toInt := by rw [gI_add hz586754 bp586488'' bg586734' (by decide) (by decide)]
              have bz586754 : gB z586754 0 16777222 := gB_add (gI_add hz586754 bp586488'' bg586734' (by decide) (by decide)) bp586488'' bg586734' (by decide) (by decide)
              have hm586755 : q586493 ∈ P586485 := RS_m hT586625 ht586510 (by decide)
              obtain ⟨n586758, f586757, he586756, bf586757, hn586758, gn586758⟩ := show rk_27 I γ q586493 (F586544 q586493) from RS_o hT586625 ht586510
              refine Gp_bald 1 hm586755 he586756 dr_cX17_word__59 rfl (gB_inr (by omega) (by omega)) (G_nam fun z586759 hz586759 => ?_)
              have bz586759 : gB z586759 (-128) 127 := by rw [hz586759]; exact bf586757 _
              refine G_sipush 255 dr_cX17_word__60 (by decide +kernel) ?_
              refine G_iand dr_cX17_word__63 (G_nam fun z586760 hz586760 => ?_)
              have bz586760 : gB z586760 0 255 := gB_and hz586760 (gBl (show Int32.toInt 255 = 255 by decide)) (by decide)
              refine G_goto 68 dr_cX17_word__64 (by decide +kernel) ?_
              refine G_i2l dr_cX17_word__68 (G_namL fun u586761 hu586761 => ?_)
              refine G_lor dr_cX17_word__69 (G_namL fun u586762 hu586762 => ?_)
              refine G_lstore_n (L' := [(2, .long u586762), (4, .int g586734), (0, .ref q586487), (1, .int p586488)]) dr_cX17_word__70 (Nat.le_of_ble_eq_true rfl) rfl ?_
              obtain ⟨z586763, hz586763⟩ : ∃ z : Int32, z = g586734 + Int32.ofInt 1 := ⟨_, rfl⟩
              have ez586763 : z586763.toInt = g586734.toInt + 1 := gI_inc hz586763 (by decide) bg586734' (by decide) (by decide)
              have bz586763 : gB z586763 1 8 := ⟨by omega, by omega⟩
              refine G_iinc (L' := [(4, .int z586763), (2, .long u586762), (0, .ref q586487), (1, .int p586488)]) z586763 1 dr_cX17_word__71 rfl hz586763.symm (Nat.le_of_ble_eq_true rfl) rfl ?_
              refine G_goto 29 dr_cX17_word__74 (by decide +kernel) ?_
              have ac586764 : (fI (F586544 q586487) 9).toInt = p586494.toInt := by rw [he586547]; rfl
              have ac586765 : (fI (F586544 q586487) 10).toInt = p586495.toInt := by rw [he586547]; rfl
              have ac586766 : (fI (F586544 q586487) 32).toInt = p586506.toInt := by rw [he586547]; rfl
              exact ih29_586735 z586763 u586762 (gB_w bz586763 (by decide) (by decide)) (mz_up ez586763 (Int.le_trans bg586734'.2 (by decide)) hm29_586735)
      have ac586767 : (fI (F586544 q586487) 9).toInt = p586494.toInt := by rw [he586547]; rfl
      have ac586768 : (fI (F586544 q586487) 10).toInt = p586495.toInt := by rw [he586547]; rfl
      have ac586769 : (fI (F586544 q586487) 32).toInt = p586506.toInt := by rw [he586547]; rfl
      exact hlp29_586735 (((9 : Int) - 0).toNat + 1) 0 0 (gB_w (gBl (show Int32.toInt 0 = 0 by decide)) (by decide) (by decide)) (Nat.lt_succ_self _)
    · have r586770 : p586508.toInt ≤ p586488.toInt := gC_nlt hc586623
      refine G_aload_n 0 dr_cX17_word__17 rfl ?_
      refine G_iconst 1 dr_cX17_word__18 (by decide +kernel) ?_
      have hT586771 : RS D I P586485 F586544 γ el := RS_set hT n586546 htq586487 (by decide) ⟨q586492, q586493, p586494, p586495, p586496, p586497, p586498, p586499, p586500, p586501, p586502, p586503, p586504, 0, p586506, p586507, p586508, he586547, ⟨bp586494, bp586495, (hB586535.2.2.1), (hB586535.2.2.2.1), (hB586535.2.2.2.2.1), (hB586535.2.2.2.2.2.1), (hB586535.2.2.2.2.2.2.1), bp586506, bp586508⟩, ht586509, ht586510, ht586511, ht586512, ht586513, ht586514, ht586515, ht586516, ht586517, ht586518, ht586519, ht586520, ht586521, ht586522, ht586523, ht586524, ht586525, ht586526, ht586527, ht586528, ht586529, ht586530, ht586531, ht586532, hB586536⟩
      have ac586772 : (fI (F586544 q586487) 9).toInt = p586494.toInt := by rw [he586547]; rfl
      have ac586773 : (fI (F586544 q586487) 10).toInt = p586495.toInt := by rw [he586547]; rfl
      have ac586774 : (fI (F586544 q586487) 32).toInt = p586506.toInt := by rw [he586547]; rfl
      refine Gw_callV (As := [.int 1]) (gV_ok D I) (ct_578426_SpillForgeModel_no l hl0 D I γ el P586485 F586544 q586487 1 hT586771 htq586487) dr_cX17_word__19 ⟨wr_7_191, wr_1_14, wr_7_194, by decide, rfl, (Nat.le_of_ble_eq_true rfl), (Nat.le_of_ble_eq_true rfl)⟩ wr_7_193 wr_p_73 hm586490 he586547 rfl (show 0 + 0 ≤ 0 by first | omega | decide) (show 0 + 0 ≤ 0 by first | omega | decide) (Nat.le_of_ble_eq_true rfl) (fun r586778 w586779 dc586775 ds586776 hp586777 => ?_) (fun _ _ _ _ _ z => z.elim)
      obtain ⟨F586784, rfl, rfl, hT586785, hs586786, hdc, hds, x586780, x586781, x586782, x586783⟩ := hp586777
      have hs586787 : rStr γ [] F586486 F586784 := rStr_tr hs586548 hs586786
      rw [show Int32.toInt 1 = 1 from by decide] at x586783
      change G _ _ _ _ _ _ _ (.int 0 :: _) _ _ _
      refine G_widen (cs' := 0) (sl' := 0) (by omega) (by omega) ?_
      refine G_i2l dr_cX17_word__22 (G_namL fun u586788 hu586788 => ?_)
      have hm586789 : q586487 ∈ P586485 := RS_m hT586785 htq586487 (by decide)
      refine rk10_e (show rk_10 γ (F586784 q586487) from RS_o hT586785 htq586487) (fun q586791 q586792 p586793 p586794 p586795 p586796 p586797 p586798 p586799 p586800 p586801 p586802 p586803 p586804 p586805 p586806 p586807 he586790 hB586834 ht586808 ht586809 ht586810 ht586811 ht586812 ht586813 ht586814 ht586815 ht586816 ht586817 ht586818 ht586819 ht586820 ht586821 ht586822 ht586823 ht586824 ht586825 ht586826 ht586827 ht586828 ht586829 ht586830 ht586831 hB586835 => ?_)
      have ac586836 : (fI (F586784 q586487) 9).toInt = p586793.toInt := by rw [he586790]; rfl
      have bp586793 : gB p586793 0 1 := (hB586834.1)
      have ac586837 : (fI (F586784 q586487) 10).toInt = p586794.toInt := by rw [he586790]; rfl
      have bp586794 : gB p586794 0 1 := (hB586834.2.1)
      have ac586838 : (fI (F586784 q586487) 32).toInt = p586805.toInt := by rw [he586790]; rfl
      have bp586805 : gB p586805 0 8192 := (hB586834.2.2.2.2.2.2.2.1)
      have ac586839 : (fI (F586784 q586487) 9).toInt = p586793.toInt := by rw [he586790]; rfl
      have ac586840 : (fI (F586784 q586487) 10).toInt = p586794.toInt := by rw [he586790]; rfl
      have ac586841 : (fI (F586784 q586487) 32).toInt = p586805.toInt := by rw [he586790]; rfl
      exact G_lretA dr_cX17_word__23 rfl (Nat.le_of_ble_eq_true rfl) (Nat.le_of_ble_eq_true rfl) ⟨F586784, u586788, rfl, rfl, hT586785, hs586787, (Nat.le_of_ble_eq_true rfl), (Nat.le_of_ble_eq_true rfl), (by omega), (by omega), (by omega)⟩
/- tr_RModel_no: F -/
def tr_RModel_no (D : va_G) (I : FieldType → ClassId) (γ el : Nat → Nat → Nat) (F : Nat → va_E) (q0 : Nat) (a1 : Int32) (o1 : Nat → va_E) : Prop := ∀ R : (Nat → va_E) → Prop,
  (∀ (x1 : Nat → va_E), (∀ b, b ≠ q0 → x1 b = F b) → x1 q0 = cF (F q0) 30 (.int a1) → R x1) →
  R o1
abbrev ky_586932_SpillForgeModel_no : gKey := (cX17_no, 2, "SpillForgeModel", (some FieldType.int), [], "no", fun _ _ => True)
def pt_586932_SpillForgeModel_no (D : va_G) (I : FieldType → ClassId) (γ el : Nat → Nat → Nat) (P586928 : List Nat) (F586929 : Nat → va_E) (q586930 : Nat) (p586931 : Int32) : Option Value → va_W → Nat → Nat → Prop := fun r w dc ds => ∃ (F586990 : Nat → va_E), r = some (.int 0) ∧ w = va_pl P586928 F586990 ∧ RS D I P586928 F586990 γ el ∧ rStr γ [] F586929 F586990 ∧ dc ≤ 0 ∧ ds ≤ 0 ∧ (fI (F586990 q586930) 10).toInt = (fI (F586929 q586930) 10).toInt ∧ mKp (F586929 q586930) (F586990 q586930) ∧ tr_RModel_no D I γ el F586929 q586930 p586931 F586990
set_option maxRecDepth 100000 in
set_option maxHeartbeats 4000000 in
theorem ct_586932_SpillForgeModel_no (l : Launch) (hl0 : l.stackTraces = false) (D : va_G) (I : FieldType → ClassId) (γ el : Nat → Nat → Nat) (P586928 : List Nat) (F586929 : Nat → va_E) (q586930 : Nat) (p586931 : Int32) (hT : RS D I P586928 F586929 γ el) (htq586930 : rKd γ q586930 10) : CtA (gV D I) l yX17_no cX17_no 2 (some FieldType.int) 0 0 0 0 [.ref q586930, .int p586931] (va_pl P586928 F586929) (pt_586932_SpillForgeModel_no D I γ el P586928 F586929 q586930 p586931) gNA := by
  refine CtA_of hl0 (by decide) (Nat.le_of_ble_eq_true rfl) ?_
  have bp586931 := gB_any p586931
  have hm586933 : q586930 ∈ P586928 := RS_m hT htq586930 (by decide)
  refine rk10_e (show rk_10 γ (F586929 q586930) from RS_o hT htq586930) (fun q586935 q586936 p586937 p586938 p586939 p586940 p586941 p586942 p586943 p586944 p586945 p586946 p586947 p586948 p586949 p586950 p586951 he586934 hB586978 ht586952 ht586953 ht586954 ht586955 ht586956 ht586957 ht586958 ht586959 ht586960 ht586961 ht586962 ht586963 ht586964 ht586965 ht586966 ht586967 ht586968 ht586969 ht586970 ht586971 ht586972 ht586973 ht586974 ht586975 hB586979 => ?_)
  have ac586980 : (fI (F586929 q586930) 10).toInt = p586938.toInt := by rw [he586934]; rfl
  have bp586938 : gB p586938 0 1 := (hB586978.2.1)
  refine G_aload_n 0 dr_cX17_no_0 rfl ?_
  refine G_iload_n 1 dr_cX17_no_1 rfl ?_
  refine Gp_put 30 hm586933 he586934 dr_cX17_no_2 (gk_X17 D I) (Nat.le_of_ble_eq_true rfl) wr_7_104 rfl rfl rfl (Nat.le_of_ble_eq_true rfl) (fun F586981 e586982 n586983 => ?_)
  have he586984 : F586981 q586930 = .inr (22, [.ref (γ 9 0), .ref (γ 9 1), .ref (γ 9 2), .ref (γ 9 3), .ref (γ 9 4), .ref (γ 9 5), .ref (γ 9 6), .ref (γ 9 7), .ref (γ 9 8), .int p586937, .int p586938, .int p586939, .int p586940, .int p586941, .int p586942, .ref (γ 9 15), .ref (γ 9 16), .ref (γ 9 17), .ref (γ 9 18), .ref (γ 9 19), .ref (γ 9 20), .ref (γ 9 21), .ref (γ 9 22), .int p586943, .int p586944, .int p586945, .int p586946, .int p586947, .ref q586935, .ref (γ 9 29), .int p586931, .ref (γ 9 31), .int p586949, .int p586950, .int p586951, .ref q586936]) := e586982
  have mk586985 : mKp (F586929 q586930) (F586981 q586930) := mKp_tr mKp_rf (by rw [he586934, he586984]; exact ⟨rfl, rfl⟩)
  have hs586986 : rStr γ [] F586929 F586981 := rStr_put (rStr_rf (γ := γ) (W := []) (F := F586929)) n586983 htq586930 (by decide)
  have fq586987 : F586981 q586930 = cF (F586929 q586930) 30 (.int p586931) := by rw [he586984, he586934]; rfl
  refine G_iconst 0 dr_cX17_no_5 (by decide +kernel) ?_
  have hT586988 : RS D I P586928 F586981 γ el := RS_set hT n586983 htq586930 (by decide) ⟨q586935, q586936, p586937, p586938, p586939, p586940, p586941, p586942, p586943, p586944, p586945, p586946, p586947, p586931, p586949, p586950, p586951, he586984, ⟨(hB586978.1), bp586938, (hB586978.2.2.1), (hB586978.2.2.2.1), (hB586978.2.2.2.2.1), (hB586978.2.2.2.2.2.1), (hB586978.2.2.2.2.2.2.1), (hB586978.2.2.2.2.2.2.2.1), (hB586978.2.2.2.2.2.2.2.2)⟩, ht586952, ht586953, ht586954, ht586955, ht586956, ht586957, ht586958, ht586959, ht586960, ht586961, ht586962, ht586963, ht586964, ht586965, ht586966, ht586967, ht586968, ht586969, ht586970, ht586971, ht586972, ht586973, ht586974, ht586975, hB586979⟩
  have ac586989 : (fI (F586981 q586930) 10).toInt = p586938.toInt := by rw [he586984]; rfl
  exact G_iretA dr_cX17_no_6 rfl (Nat.le_of_ble_eq_true rfl) (Nat.le_of_ble_eq_true rfl) ⟨F586981, rfl, rfl, hT586988, hs586986, (Nat.le_of_ble_eq_true rfl), (Nat.le_of_ble_eq_true rfl), (by have qa0 : Int32.toInt 0 = 0 := (by decide); omega), mk586985, (fun R c1 => c1 F586981 n586983 fq586987)⟩
/- tr_RModel_look: result, P, F, gm, el -/
def tr_RModel_look (D : va_G) (I : FieldType → ClassId) (γ0 el0 : Nat → Nat → Nat) (f : Nat) (fo : Nat) (P : List Nat) (F : Nat → va_E) (q0 : Nat) (a1 : Int32) (a2 : Int32) (p : Nat) (p2 : Nat) (o1 : Int32) (o2 : List Nat) (o3 : Nat → va_E) (o4 : Nat → Nat → Nat) (o5 : Nat → Nat → Nat) : Prop := ∀ R : (Int32) → (List Nat) → (Nat → va_E) → (Nat → Nat → Nat) → (Nat → Nat → Nat) → Prop,
  (∀ (x1 : Nat → Nat → Nat) (x2 : Nat → Nat → Nat) (x3 : Nat → va_E) (x4 : Int32) (x5 : Nat → va_E), x1 = γ0 → x2 = el0 → (∀ b, b ≠ q0 → x3 b = F b) → x3 q0 = cF (F q0) 30 (.int 0) → fI (x3 q0) 9 = x4 → x4.toInt ≠ 0 → a2.toInt < 0 → RS D I P x5 x1 x2 → rStr x1 [] x3 x5 → (fI (x5 q0) 10).toInt = (fI (x3 q0) 10).toInt → mKp (x3 q0) (x5 q0) → tr_RModel_no D I x1 x2 x3 q0 (2 : Int32) x5 → R (0 : Int32) P x5 x1 x2) →
  (∀ (x1 : Nat → Nat → Nat) (x2 : Nat → Nat → Nat) (x3 : Nat → va_E) (x4 : Int32) (x5 : Nat → va_E) (x6 : Nat → va_E), x1 = γ0 → x2 = el0 → (∀ b, b ≠ q0 → x3 b = F b) → x3 q0 = cF (F q0) 30 (.int 0) → fI (x3 q0) 9 = x4 → x4.toInt ≠ 0 → 0 ≤ a2.toInt → a2.toInt ≤ 3 → a2.toInt ≤ 1 → fR (x3 q0) 6 = (x1 9 6) → RS D I P x5 x1 x2 → rStr x1 [] x3 x5 → (gIp ((0 : Int) = 0) (rGr x1 x2 x3 p2 (x1 6 (x1 1 p2)) (cB (x5 (x1 9 3))) (vA (x1 6 (x1 1 p2))))) → (x5 q0 = x3 q0) → tr_RModel_graph D I x1 x2 P x3 q0 p2 (0 : Int32) x5 → a1.toInt < 0 → RS D I P x6 x1 x2 → rStr x1 [] x5 x6 → (fI (x6 q0) 10).toInt = (fI (x5 q0) 10).toInt → mKp (x5 q0) (x6 q0) → tr_RModel_no D I x1 x2 x5 q0 (3 : Int32) x6 → R (0 : Int32) P x6 x1 x2) →
  (∀ (x1 : Nat → Nat → Nat) (x2 : Nat → Nat → Nat) (x3 : Nat → va_E) (x4 : Int32) (x5 : Nat → va_E) (x6 : Nat → va_E), x1 = γ0 → x2 = el0 → (∀ b, b ≠ q0 → x3 b = F b) → x3 q0 = cF (F q0) 30 (.int 0) → fI (x3 q0) 9 = x4 → x4.toInt ≠ 0 → 0 ≤ a2.toInt → a2.toInt ≤ 3 → a2.toInt ≤ 1 → fR (x3 q0) 6 = (x1 9 6) → RS D I P x5 x1 x2 → rStr x1 [] x3 x5 → (gIp ((0 : Int) = 0) (rGr x1 x2 x3 p2 (x1 6 (x1 1 p2)) (cB (x5 (x1 9 3))) (vA (x1 6 (x1 1 p2))))) → (x5 q0 = x3 q0) → tr_RModel_graph D I x1 x2 P x3 q0 p2 (0 : Int32) x5 → 0 ≤ a1.toInt → 2000 ≤ a1.toInt → RS D I P x6 x1 x2 → rStr x1 [] x5 x6 → (fI (x6 q0) 10).toInt = (fI (x5 q0) 10).toInt → mKp (x5 q0) (x6 q0) → tr_RModel_no D I x1 x2 x5 q0 (3 : Int32) x6 → R (0 : Int32) P x6 x1 x2) →
  (∀ (x1 : Nat → Nat → Nat) (x2 : Nat → Nat → Nat) (x3 : Nat → va_E) (x4 : Int32) (x5 : Nat → va_E) (x6 : Nat → Int32) (x7 : Int32) (x8 : List Nat) (x9 : Nat → va_E) (x10 : Nat → Nat → Nat) (x11 : Nat → Nat → Nat) (x12 : List Nat) (x13 : Nat → va_E) (x14 : Nat → Nat → Nat) (x15 : Nat → Nat → Nat) (x16 : Nat → va_E) (x17 : Nat → va_E) (x18 : Nat) (x19 : Nat → Int64) (x20 : Int32), x1 = γ0 → x2 = el0 → (∀ b, b ≠ q0 → x3 b = F b) → x3 q0 = cF (F q0) 30 (.int 0) → fI (x3 q0) 9 = x4 → x4.toInt ≠ 0 → 0 ≤ a2.toInt → a2.toInt ≤ 3 → a2.toInt ≤ 1 → fR (x3 q0) 6 = (x1 9 6) → RS D I P x5 x1 x2 → rStr x1 [] x3 x5 → (gIp ((0 : Int) = 0) (rGr x1 x2 x3 p2 (x1 6 (x1 1 p2)) (cB (x5 (x1 9 3))) (vA (x1 6 (x1 1 p2))))) → (x5 q0 = x3 q0) → tr_RModel_graph D I x1 x2 P x3 q0 p2 (0 : Int32) x5 → 0 ≤ a1.toInt → a1.toInt < 2000 → fR (x5 q0) 3 = (x1 9 3) → x5 (x1 9 3) = .inl (I .boolean, 2000, .inl x6) → x7 = x6 a1.toNatClampNeg → gB x7 0 1 → x7.toInt ≠ 0 → fR (x5 q0) 8 = (x1 9 8) → fR (x5 q0) 6 = (x1 9 6) → rSk f [1, 2, 3, 101, 102, 103, 202] ([1, 2, 3, 4, 5, 6, 7, 8, 9, 101, 102, 103, 202]) D I P x5 x1 x2 x8 x9 x10 x11 → x10 6 f = x1 6 fo → x10 7 f = 0 → x10 16 f ≤ x1 16 fo → x10 18 f = 0 → tr_RCode_copy D I x1 x2 f fo P x5 p p2 x8 x9 x10 x11 → fR (x9 q0) 8 = (x10 9 8) → rSk f [101] ([1, 3, 5, 6, 8, 9, 101] ++ npk) D I x8 x9 x10 x11 x12 x13 x14 x15 → x14 6 f = x10 6 f → x14 7 f = x10 7 f → x14 16 f ≤ x10 16 f + 2000 → x14 18 f = x10 18 f → (x13 q0 = x9 q0) → tr_RModel_zeros D I x10 x11 f x8 x9 q0 p x12 x13 x14 x15 → fR (x13 q0) 8 = (x14 9 8) → RS D I x12 x16 x14 x15 → rStr x14 [] x13 x16 → (gIp ((0 : Int) = 0) (rGr x14 x15 x13 p (x14 6 (x14 1 p)) (cB (x16 (x14 9 3))) (vA (x14 6 (x14 1 p))))) → (x16 q0 = x13 q0) → tr_RModel_graph D I x14 x15 x12 x13 q0 p (0 : Int32) x16 → fR (x16 q0) 8 = (x14 9 8) → RS D I x12 x17 x14 x15 → rStr x14 [] x16 x17 → (x17 q0 = x16 q0) → (x17 (x14 9 3) = x16 (x14 9 3)) → tr_RModel_weigh D I x14 x15 x12 x16 q0 p x17 → a2.toInt ≠ 0 → fR (x17 q0) 1 = (x14 9 1) → x18 = x14 11 a1.toInt.toNat → x17 x18 = .inl (I .long, 32, .inr (.inl x19)) → tr_RModel_count x19 x20 → R x20 x12 x17 x14 x15) →
  (∀ (x1 : Nat → Nat → Nat) (x2 : Nat → Nat → Nat) (x3 : Nat → va_E) (x4 : Int32) (x5 : Nat → va_E) (x6 : Nat → Int32) (x7 : Int32) (x8 : List Nat) (x9 : Nat → va_E) (x10 : Nat → Nat → Nat) (x11 : Nat → Nat → Nat) (x12 : List Nat) (x13 : Nat → va_E) (x14 : Nat → Nat → Nat) (x15 : Nat → Nat → Nat) (x16 : Nat → va_E) (x17 : Nat → va_E) (x18 : Nat → Int32) (x19 : Int32), x1 = γ0 → x2 = el0 → (∀ b, b ≠ q0 → x3 b = F b) → x3 q0 = cF (F q0) 30 (.int 0) → fI (x3 q0) 9 = x4 → x4.toInt ≠ 0 → 0 ≤ a2.toInt → a2.toInt ≤ 3 → a2.toInt ≤ 1 → fR (x3 q0) 6 = (x1 9 6) → RS D I P x5 x1 x2 → rStr x1 [] x3 x5 → (gIp ((0 : Int) = 0) (rGr x1 x2 x3 p2 (x1 6 (x1 1 p2)) (cB (x5 (x1 9 3))) (vA (x1 6 (x1 1 p2))))) → (x5 q0 = x3 q0) → tr_RModel_graph D I x1 x2 P x3 q0 p2 (0 : Int32) x5 → 0 ≤ a1.toInt → a1.toInt < 2000 → fR (x5 q0) 3 = (x1 9 3) → x5 (x1 9 3) = .inl (I .boolean, 2000, .inl x6) → x7 = x6 a1.toNatClampNeg → gB x7 0 1 → x7.toInt ≠ 0 → fR (x5 q0) 8 = (x1 9 8) → fR (x5 q0) 6 = (x1 9 6) → rSk f [1, 2, 3, 101, 102, 103, 202] ([1, 2, 3, 4, 5, 6, 7, 8, 9, 101, 102, 103, 202]) D I P x5 x1 x2 x8 x9 x10 x11 → x10 6 f = x1 6 fo → x10 7 f = 0 → x10 16 f ≤ x1 16 fo → x10 18 f = 0 → tr_RCode_copy D I x1 x2 f fo P x5 p p2 x8 x9 x10 x11 → fR (x9 q0) 8 = (x10 9 8) → rSk f [101] ([1, 3, 5, 6, 8, 9, 101] ++ npk) D I x8 x9 x10 x11 x12 x13 x14 x15 → x14 6 f = x10 6 f → x14 7 f = x10 7 f → x14 16 f ≤ x10 16 f + 2000 → x14 18 f = x10 18 f → (x13 q0 = x9 q0) → tr_RModel_zeros D I x10 x11 f x8 x9 q0 p x12 x13 x14 x15 → fR (x13 q0) 8 = (x14 9 8) → RS D I x12 x16 x14 x15 → rStr x14 [] x13 x16 → (gIp ((0 : Int) = 0) (rGr x14 x15 x13 p (x14 6 (x14 1 p)) (cB (x16 (x14 9 3))) (vA (x14 6 (x14 1 p))))) → (x16 q0 = x13 q0) → tr_RModel_graph D I x14 x15 x12 x13 q0 p (0 : Int32) x16 → fR (x16 q0) 8 = (x14 9 8) → RS D I x12 x17 x14 x15 → rStr x14 [] x16 x17 → (x17 q0 = x16 q0) → (x17 (x14 9 3) = x16 (x14 9 3)) → tr_RModel_weigh D I x14 x15 x12 x16 q0 p x17 → a2.toInt = 0 → fR (x17 q0) 5 = (x14 9 5) → x17 (x14 9 5) = .inl (I .int, 2000, .inl x18) → x19 = x18 a1.toNatClampNeg → R x19 x12 x17 x14 x15) →
  (∀ (x1 : Nat → Nat → Nat) (x2 : Nat → Nat → Nat) (x3 : Nat → va_E) (x4 : Int32) (x5 : Nat → va_E) (x6 : Nat → Int32) (x7 : Int32) (x8 : Nat → va_E), x1 = γ0 → x2 = el0 → (∀ b, b ≠ q0 → x3 b = F b) → x3 q0 = cF (F q0) 30 (.int 0) → fI (x3 q0) 9 = x4 → x4.toInt ≠ 0 → 0 ≤ a2.toInt → a2.toInt ≤ 3 → a2.toInt ≤ 1 → fR (x3 q0) 6 = (x1 9 6) → RS D I P x5 x1 x2 → rStr x1 [] x3 x5 → (gIp ((0 : Int) = 0) (rGr x1 x2 x3 p2 (x1 6 (x1 1 p2)) (cB (x5 (x1 9 3))) (vA (x1 6 (x1 1 p2))))) → (x5 q0 = x3 q0) → tr_RModel_graph D I x1 x2 P x3 q0 p2 (0 : Int32) x5 → 0 ≤ a1.toInt → a1.toInt < 2000 → fR (x5 q0) 3 = (x1 9 3) → x5 (x1 9 3) = .inl (I .boolean, 2000, .inl x6) → x7 = x6 a1.toNatClampNeg → gB x7 0 1 → x7.toInt = 0 → RS D I P x8 x1 x2 → rStr x1 [] x5 x8 → (fI (x8 q0) 10).toInt = (fI (x5 q0) 10).toInt → mKp (x5 q0) (x8 q0) → tr_RModel_no D I x1 x2 x5 q0 (3 : Int32) x8 → R (0 : Int32) P x8 x1 x2) →
  (∀ (x1 : Nat → Nat → Nat) (x2 : Nat → Nat → Nat) (x3 : Nat → va_E) (x4 : Int32) (x5 : Nat → va_E), x1 = γ0 → x2 = el0 → (∀ b, b ≠ q0 → x3 b = F b) → x3 q0 = cF (F q0) 30 (.int 0) → fI (x3 q0) 9 = x4 → x4.toInt ≠ 0 → 0 ≤ a2.toInt → a2.toInt ≤ 3 → 1 < a2.toInt → a1.toInt < 0 → RS D I P x5 x1 x2 → rStr x1 [] x3 x5 → (fI (x5 q0) 10).toInt = (fI (x3 q0) 10).toInt → mKp (x3 q0) (x5 q0) → tr_RModel_no D I x1 x2 x3 q0 (3 : Int32) x5 → R (0 : Int32) P x5 x1 x2) →
  (∀ (x1 : Nat → Nat → Nat) (x2 : Nat → Nat → Nat) (x3 : Nat → va_E) (x4 : Int32) (x5 : Int32) (x6 : Nat → va_E) (x7 : Nat → va_E) (x8 : Nat → Int32) (x9 : Int32), x1 = γ0 → x2 = el0 → (∀ b, b ≠ q0 → x3 b = F b) → x3 q0 = cF (F q0) 30 (.int 0) → fI (x3 q0) 9 = x4 → x4.toInt ≠ 0 → 0 ≤ a2.toInt → a2.toInt ≤ 3 → 1 < a2.toInt → 0 ≤ a1.toInt → fR (x3 q0) 6 = (x1 9 6) → fI (x3 p2) 3 = x5 → a1.toInt < x5.toInt → RS D I P x6 x1 x2 → rStr x1 [] x3 x6 → (x6 q0 = x3 q0) → tr_RModel_findLive D I x1 x2 P x3 q0 p2 (0 : Int32) x6 → fR (x6 q0) 6 = (x1 9 6) → RS D I P x7 x1 x2 → rStr x1 [] x6 x7 → (x7 q0 = x6 q0) → (x7 (x1 9 3) = x6 (x1 9 3)) → tr_RModel_findDepth2 D I x1 x2 P x6 q0 p2 x7 → a2.toInt ≠ 2 → fR (x7 q0) 4 = (x1 9 4) → x7 (x1 9 4) = .inl (I .int, 40, .inl x8) → x9 = x8 a1.toNatClampNeg → R x9 P x7 x1 x2) →
  (∀ (x1 : Nat → Nat → Nat) (x2 : Nat → Nat → Nat) (x3 : Nat → va_E) (x4 : Int32) (x5 : Int32) (x6 : Nat → va_E) (x7 : Nat → va_E) (x8 : Nat) (x9 : Nat → Int64) (x10 : Int32), x1 = γ0 → x2 = el0 → (∀ b, b ≠ q0 → x3 b = F b) → x3 q0 = cF (F q0) 30 (.int 0) → fI (x3 q0) 9 = x4 → x4.toInt ≠ 0 → 0 ≤ a2.toInt → a2.toInt ≤ 3 → 1 < a2.toInt → 0 ≤ a1.toInt → fR (x3 q0) 6 = (x1 9 6) → fI (x3 p2) 3 = x5 → a1.toInt < x5.toInt → RS D I P x6 x1 x2 → rStr x1 [] x3 x6 → (x6 q0 = x3 q0) → tr_RModel_findLive D I x1 x2 P x3 q0 p2 (0 : Int32) x6 → fR (x6 q0) 6 = (x1 9 6) → RS D I P x7 x1 x2 → rStr x1 [] x6 x7 → (x7 q0 = x6 q0) → (x7 (x1 9 3) = x6 (x1 9 3)) → tr_RModel_findDepth2 D I x1 x2 P x6 q0 p2 x7 → a2.toInt = 2 → fR (x7 q0) 0 = (x1 9 0) → x8 = x1 10 a1.toInt.toNat → x7 x8 = .inl (I .long, 32, .inr (.inl x9)) → tr_RModel_count x9 x10 → R x10 P x7 x1 x2) →
  (∀ (x1 : Nat → Nat → Nat) (x2 : Nat → Nat → Nat) (x3 : Nat → va_E) (x4 : Int32) (x5 : Int32) (x6 : Nat → va_E), x1 = γ0 → x2 = el0 → (∀ b, b ≠ q0 → x3 b = F b) → x3 q0 = cF (F q0) 30 (.int 0) → fI (x3 q0) 9 = x4 → x4.toInt ≠ 0 → 0 ≤ a2.toInt → a2.toInt ≤ 3 → 1 < a2.toInt → 0 ≤ a1.toInt → fR (x3 q0) 6 = (x1 9 6) → fI (x3 p2) 3 = x5 → x5.toInt ≤ a1.toInt → RS D I P x6 x1 x2 → rStr x1 [] x3 x6 → (fI (x6 q0) 10).toInt = (fI (x3 q0) 10).toInt → mKp (x3 q0) (x6 q0) → tr_RModel_no D I x1 x2 x3 q0 (3 : Int32) x6 → R (0 : Int32) P x6 x1 x2) →
  (∀ (x1 : Nat → Nat → Nat) (x2 : Nat → Nat → Nat) (x3 : Nat → va_E) (x4 : Int32) (x5 : Nat → va_E), x1 = γ0 → x2 = el0 → (∀ b, b ≠ q0 → x3 b = F b) → x3 q0 = cF (F q0) 30 (.int 0) → fI (x3 q0) 9 = x4 → x4.toInt ≠ 0 → 0 ≤ a2.toInt → 3 < a2.toInt → RS D I P x5 x1 x2 → rStr x1 [] x3 x5 → (fI (x5 q0) 10).toInt = (fI (x3 q0) 10).toInt → mKp (x3 q0) (x5 q0) → tr_RModel_no D I x1 x2 x3 q0 (2 : Int32) x5 → R (0 : Int32) P x5 x1 x2) →
  (∀ (x1 : Nat → Nat → Nat) (x2 : Nat → Nat → Nat) (x3 : Nat → va_E) (x4 : Int32) (x5 : Nat → va_E), x1 = γ0 → x2 = el0 → (∀ b, b ≠ q0 → x3 b = F b) → x3 q0 = cF (F q0) 30 (.int 0) → fI (x3 q0) 9 = x4 → x4.toInt = 0 → RS D I P x5 x1 x2 → rStr x1 [] x3 x5 → (fI (x5 q0) 10).toInt = (fI (x3 q0) 10).toInt → mKp (x3 q0) (x5 q0) → tr_RModel_no D I x1 x2 x3 q0 (1 : Int32) x5 → R (0 : Int32) P x5 x1 x2) →
  R o1 o2 o3 o4 o5
abbrev ky_586856_SpillForgeModel_look : gKey := (cX17_look, 3, "SpillForgeModel", (some FieldType.int), [], "look", fun _ _ => True)
def pg_586856_SpillForgeModel_look (D : va_G) (I : FieldType → ClassId) (γ0 el0 : Nat → Nat → Nat) (f : Nat) (fo : Nat) (B : Nat) (P586844 : List Nat) (F586845 : Nat → va_E) (q586846 : Nat) (p586847 : Int32) (p586848 : Int32) (q586849 : Nat) (q586850 : Nat) : Option Value → va_W → Nat → Nat → Prop := fun r w dc ds => ∃ (P587496 : List Nat) (F587497 : Nat → va_E) (γ el : Nat → Nat → Nat) (o587495 : Int32), r = some (.int o587495) ∧ w = va_pl P587496 F587497 ∧ rSk f [1, 2, 3, 101, 102, 103, 202] ([1, 2, 3, 4, 5, 6, 7, 8, 9, 101, 102, 103, 202] ++ npk) D I P586844 F586845 γ0 el0 P587496 F587497 γ el ∧ (18 * dc + rPh γ0 el0 f ≤ rPh γ el f ∧ ds + rPh γ0 el0 f ≤ rPh γ el f) ∧ rBd γ el f B ∧ (fI (F587497 q586846) 10).toInt = (fI (F586845 q586846) 10).toInt ∧ mKp (F586845 q586846) (F587497 q586846) ∧ tr_RModel_look D I γ0 el0 f fo P586844 F586845 q586846 p586847 p586848 q586849 q586850 o587495 P587496 F587497 γ el
set_option maxRecDepth 100000 in
set_option maxHeartbeats 20000000 in
theorem cg_586856_SpillForgeModel_look (l : Launch) (hl0 : l.stackTraces = false) (D : va_G) (I : FieldType → ClassId) (γ0 el0 : Nat → Nat → Nat) (f : Nat) (fo : Nat) (B : Nat) (P586844 : List Nat) (F586845 : Nat → va_E) (q586846 : Nat) (p586847 : Int32) (p586848 : Int32) (q586849 : Nat) (q586850 : Nat) (hT0 : RS D I P586844 F586845 γ0 el0) (hzq586846 : rKd γ0 q586846 10) (hzq586849 : rKd γ0 q586849 9) (hzq586850 : rKd γ0 q586850 9) (hvq586849 : γ0 9 8 = q586849) (hvq586850 : γ0 9 6 = q586850) (hf0 : γ0 1 q586849 = f) (hfo0 : γ0 1 q586850 = fo) (hne : fo ≠ f) (hB0 : rBd γ0 el0 f B) (hBk : B ≤ 100000) (x586851 : f = 2) (x586852 : fo = 0) (x586853 : ((fI (F586845 q586846) 9).toInt = 0 ∨ (0 < γ0 6 fo ∧ γ0 16 fo ≤ 160))) (x586854 : γ0 7 fo = 0) (x586855 : 2160 ≤ B) : CtA (gV D I) l yX17_look cX17_look 3 (some FieldType.int) 9 196 (((387 * B + 6000) - rPh γ0 el0 f) / 18) ((387 * B + 6000) - rPh γ0 el0 f) [.ref q586846, .int p586847, .int p586848] (va_pl P586844 F586845) (pg_586856_SpillForgeModel_look D I γ0 el0 f fo B P586844 F586845 q586846 p586847 p586848 q586849 q586850) gNA := by
  refine CtA_of hl0 (by decide) (Nat.le_of_ble_eq_true rfl) ?_
  have bp586847 := gB_any p586847
  have bp586848 := gB_any p586848
  obtain ⟨gm_0, hγ0⟩ : ∃ z, z = γ0 := ⟨_, rfl⟩
  obtain ⟨el_0, hel0⟩ : ∃ z, z = el0 := ⟨_, rfl⟩
  have hT : RS D I P586844 F586845 gm_0 el_0 := by rw [hγ0, hel0]; exact hT0
  have hst : rSk f [1, 2, 3, 101, 102, 103, 202] ([1, 2, 3, 4, 5, 6, 7, 8, 9, 101, 102, 103, 202] ++ npk) D I P586844 F586845 γ0 el0 P586844 F586845 gm_0 el_0 := by rw [hγ0, hel0]; exact rSk_rf hT0
  have hph : rPh γ0 el0 f ≤ rPh gm_0 el_0 f := by rw [hγ0, hel0]; exact Nat.le_refl _
  have hB : rBd gm_0 el_0 f B := by rw [hγ0, hel0]; exact hB0
  have htq586846 : rKd gm_0 q586846 10 := by rw [hγ0]; exact hzq586846
  have htq586849 : rKd gm_0 q586849 9 := by rw [hγ0]; exact hzq586849
  have htq586850 : rKd gm_0 q586850 9 := by rw [hγ0]; exact hzq586850
  have hf1 : gm_0 1 q586849 = f := by rw [hγ0]; exact hf0
  have hfo1 : gm_0 1 q586850 = fo := by rw [hγ0]; exact hfo0
  have x586853n : ((fI (F586845 q586846) 9).toInt = 0 ∨ (0 < gm_0 6 fo ∧ gm_0 16 fo ≤ 160)) := by rw [hγ0]; exact x586853
  have x586854n : gm_0 7 fo = 0 := by rw [hγ0]; exact x586854
  have pk586857 : rPh gm_0 el_0 f ≤ 387 * B + 6000 := rm_pk (rM_ge hT htq586849 hf1).1 (rM_bd hB)
  refine G_widen (cs' := ((rPh gm_0 el_0 f - rPh γ0 el0 f) / 18)) (sl' := (rPh gm_0 el_0 f - rPh γ0 el0 f)) (Nat.zero_le _) (Nat.zero_le _) ?_
  have lz0 : Int32.toInt 0 = 0 := by decide
  have r586858 : gm_0 6 f = γ0 6 f := by rw [hγ0]
  have r586859 : gm_0 7 f = γ0 7 f := by rw [hγ0]
  have r586860 : gm_0 16 f = γ0 16 f := by rw [hγ0]
  have r586861 : gm_0 18 f = γ0 18 f := by rw [hγ0]
  have r586862 : gm_0 19 f = γ0 19 f := by rw [hγ0]
  have hm586863 : q586846 ∈ P586844 := RS_m hT htq586846 (by decide)
  refine rk10_e (show rk_10 gm_0 (F586845 q586846) from RS_o hT htq586846) (fun q586865 q586866 p586867 p586868 p586869 p586870 p586871 p586872 p586873 p586874 p586875 p586876 p586877 p586878 p586879 p586880 p586881 he586864 hB586908 ht586882 ht586883 ht586884 ht586885 ht586886 ht586887 ht586888 ht586889 ht586890 ht586891 ht586892 ht586893 ht586894 ht586895 ht586896 ht586897 ht586898 ht586899 ht586900 ht586901 ht586902 ht586903 ht586904 ht586905 hB586909 => ?_)
  have ac0_9 : (fI (F586845 q586846) 9).toInt = p586867.toInt := by rw [he586864]; rfl
  have ac0_10 : (fI (F586845 q586846) 10).toInt = p586868.toInt := by rw [he586864]; rfl
  have ac0_32 : (fI (F586845 q586846) 32).toInt = p586879.toInt := by rw [he586864]; rfl
  have r586910 : gm_0 6 fo = γ0 6 fo := by rw [hγ0]
  have r586911 : gm_0 7 fo = γ0 7 fo := by rw [hγ0]
  have r586912 : gm_0 16 fo = γ0 16 fo := by rw [hγ0]
  refine G_aload_n 0 dr_cX17_look_0 rfl ?_
  refine G_iconst 0 dr_cX17_look_1 (by decide +kernel) ?_
  refine Gp_put 30 hm586863 he586864 dr_cX17_look_2 (gk_X17 D I) (Nat.le_of_ble_eq_true rfl) wr_7_104 rfl rfl rfl (Nat.le_of_ble_eq_true rfl) (fun F586913 e586914 n586915 => ?_)
  have he586916 : F586913 q586846 = .inr (22, [.ref (gm_0 9 0), .ref (gm_0 9 1), .ref (gm_0 9 2), .ref (gm_0 9 3), .ref (gm_0 9 4), .ref (gm_0 9 5), .ref (gm_0 9 6), .ref (gm_0 9 7), .ref (gm_0 9 8), .int p586867, .int p586868, .int p586869, .int p586870, .int p586871, .int p586872, .ref (gm_0 9 15), .ref (gm_0 9 16), .ref (gm_0 9 17), .ref (gm_0 9 18), .ref (gm_0 9 19), .ref (gm_0 9 20), .ref (gm_0 9 21), .ref (gm_0 9 22), .int p586873, .int p586874, .int p586875, .int p586876, .int p586877, .ref q586865, .ref (gm_0 9 29), .int 0, .ref (gm_0 9 31), .int p586879, .int p586880, .int p586881, .ref q586866]) := e586914
  have mk586917 : mKp (F586845 q586846) (F586913 q586846) := mKp_tr mKp_rf (by rw [he586864, he586916]; exact ⟨rfl, rfl⟩)
  have fq586918 : F586913 q586846 = cF (F586845 q586846) 30 (.int 0) := by rw [he586916, he586864]; rfl
  have hT586919 : RS D I P586844 F586913 gm_0 el_0 := RS_set hT n586915 htq586846 (by decide) ⟨q586865, q586866, p586867, p586868, p586869, p586870, p586871, p586872, p586873, p586874, p586875, p586876, p586877, 0, p586879, p586880, p586881, he586916, ⟨(hB586908.1), (hB586908.2.1), (hB586908.2.2.1), (hB586908.2.2.2.1), (hB586908.2.2.2.2.1), (hB586908.2.2.2.2.2.1), (hB586908.2.2.2.2.2.2.1), (hB586908.2.2.2.2.2.2.2.1), (hB586908.2.2.2.2.2.2.2.2)⟩, ht586882, ht586883, ht586884, ht586885, ht586886, ht586887, ht586888, ht586889, ht586890, ht586891, ht586892, ht586893, ht586894, ht586895, ht586896, ht586897, ht586898, ht586899, ht586900, ht586901, ht586902, ht586903, ht586904, ht586905, hB586909⟩
  have hs586920 := rSk_put hst hT586919 n586915 htq586846 (by decide) (by decide)
  have ac586921 : (fI (F586913 q586846) 10).toInt = p586868.toInt := by rw [he586916]; rfl
  have r586922 : gm_0 6 (gm_0 1 q586850) = gm_0 6 fo := by rw [hfo1]
  refine G_aload_n 0 dr_cX17_look_5 rfl ?_
  have fq586923 : fI (F586913 q586846) 9 = p586867 := by rw [he586916]; rfl
  refine Gp_get 9 hm586863 he586916 dr_cX17_look_6 (gk_X17 D I) (Nat.le_of_ble_eq_true rfl) wr_7_83 rfl ?_
  have bp586867 : gB p586867 0 1 := (hB586908.1)
  refine G_if_ne 18 dr_cX17_look_9 (by decide +kernel) (fun hc586924 => ?_) (fun hc586924 => ?_)
  · have r586925 : p586867.toInt ≠ 0 := gj_neq hc586924 (show Int32.toInt 0 = 0 by decide)
    have bp586867' : gB p586867 1 1 := gB_t1 bp586867 r586925
    refine G_iload_n 2 dr_cX17_look_18 rfl ?_
    refine G_if_lt 27 dr_cX17_look_19 (by decide +kernel) (fun hc586926 => ?_) (fun hc586926 => ?_)
    · have r586927 : p586848.toInt < 0 := gj_lt hc586926 (show Int32.toInt 0 = 0 by decide)
      have bp586848' : gB p586848 (-2147483648) (-1) := ⟨by omega, by omega⟩
      refine G_aload_n 0 dr_cX17_look_27 rfl ?_
      refine G_iconst 2 dr_cX17_look_28 (by decide +kernel) ?_
      refine Gw_callV (As := [.int 2]) (gV_ok D I) (ct_586932_SpillForgeModel_no l hl0 D I gm_0 el_0 P586844 F586913 q586846 2 hT586919 htq586846) dr_cX17_look_29 ⟨wr_7_191, wr_1_14, wr_7_194, by decide, rfl, (Nat.le_of_ble_eq_true rfl), (Nat.le_of_ble_eq_true rfl)⟩ wr_7_193 wr_p_73 hm586863 he586916 rfl (rm_zc pk586857) (rm_zs pk586857) (Nat.le_of_ble_eq_true rfl) (fun r586994 w586995 dc586991 ds586992 hp586993 => ?_) (fun _ _ _ _ _ z => z.elim)
      obtain ⟨F586999, rfl, rfl, hT587000, hs587001, hdc, hds, x586996, x586997, ht586998⟩ := hp586993
      have hs587002 := rSk_str hs586920 hT587000 hs587001 (by decide) (by decide) (by decide)
      have mk587003 : mKp (F586845 q586846) (F586999 q586846) := mKp_tr mk586917 x586997
      change G _ _ _ _ _ _ _ (.int 0 :: _) _ _ _
      refine G_widen (cs' := ((rPh gm_0 el_0 f - rPh γ0 el0 f) / 18)) (sl' := (rPh gm_0 el_0 f - rPh γ0 el0 f)) (rm_d0 hdc) (rm_d0 hds) ?_
      exact G_iretA dr_cX17_look_32 rfl (show ((rPh gm_0 el_0 f - rPh γ0 el0 f) / 18) ≤ (((387 * B + 6000) - rPh γ0 el0 f) / 18) by omega) (show (rPh gm_0 el_0 f - rPh γ0 el0 f) ≤ ((387 * B + 6000) - rPh γ0 el0 f) by omega) ⟨P586844, F586999, gm_0, el_0, 0, rfl, rfl, hs587002, ⟨by omega, by omega⟩, hB, (by have qa0 : Int32.toInt 0 = 0 := (by decide); omega), mk587003, (fun R c1 c2 c3 c4 c5 c6 c7 c8 c9 c10 c11 c12 => c1 gm_0 el_0 F586913 p586867 F586999 hγ0 hel0 n586915 fq586918 fq586923 r586925 r586927 hT587000 hs587001 x586996 x586997 ht586998)⟩
    · have r587004 : 0 ≤ p586848.toInt := gj_nlt hc586926 (show Int32.toInt 0 = 0 by decide)
      have bp586848' : gB p586848 0 2147483647 := ⟨by omega, by omega⟩
      refine G_iload_n 2 dr_cX17_look_22 rfl ?_
      refine G_iconst 3 dr_cX17_look_23 (by decide +kernel) ?_
      refine G_icmp_le 33 dr_cX17_look_24 (by decide +kernel) (fun hc587005 => ?_) (fun hc587005 => ?_)
      · have r587006 : p586848.toInt ≤ 3 := gj_le hc587005 (show Int32.toInt 3 = 3 by decide)
        have bp586848'' : gB p586848 0 3 := ⟨by omega, by omega⟩
        refine G_iload_n 2 dr_cX17_look_33 rfl ?_
        refine G_iconst 1 dr_cX17_look_34 (by decide +kernel) ?_
        refine G_icmp_le 100 dr_cX17_look_35 (by decide +kernel) (fun hc587007 => ?_) (fun hc587007 => ?_)
        · have r587008 : p586848.toInt ≤ 1 := gj_le hc587007 (show Int32.toInt 1 = 1 by decide)
          have bp586848''' : gB p586848 0 1 := ⟨by omega, by omega⟩
          refine G_aload_n 0 dr_cX17_look_100 rfl ?_
          refine G_aload_n 0 dr_cX17_look_101 rfl ?_
          have fq587009 : fR (F586913 q586846) 6 = (gm_0 9 6) := by rw [he586916]; rfl
          refine Gp_get 6 hm586863 he586916 dr_cX17_look_102 (gk_X17 D I) (Nat.le_of_ble_eq_true rfl) wr_7_80 rfl ?_
          rw [show gm_0 9 6 = q586850 from (congrFun (rSk_9 hs586920) 6).trans hvq586850]
          refine G_iconst 0 dr_cX17_look_105 (by decide +kernel) ?_
          refine Gw_callV (As := [.ref q586850, .int 0]) (gV_ok D I) (ct_276669_SpillForgeModel_graph l hl0 D I gm_0 el_0 P586844 F586913 q586846 q586850 0 hT586919 htq586846 htq586850 (gB_w (gBl (show Int32.toInt 0 = 0 by decide)) (by decide) (by decide)) (by omega)) dr_cX17_look_106 ⟨wr_10_233, wr_1_14, wr_10_236, by decide, rfl, (Nat.le_of_ble_eq_true rfl), (Nat.le_of_ble_eq_true rfl)⟩ wr_10_235 wr_p_99 hm586863 he586916 rfl (rm_zc pk586857) (rm_zs pk586857) (Nat.le_of_ble_eq_true rfl) (fun r587013 w587014 dc587010 ds587011 hp587012 => ?_) (fun _ _ _ _ _ z => z.elim)
          obtain ⟨F587018, rfl, rfl, hT587019, hs587020, hdc, hds, x587015, x587016, ht587017⟩ := hp587012
          have hs587021 := rSk_str hs586920 hT587019 hs587020 (by decide) (by decide) (by decide)
          have kp587022 : F587018 q586846 = F586913 q586846 := x587016
          have mk587023 : mKp (F586845 q586846) (F587018 q586846) := mKp_tr mk586917 (mKp_eq x587016)
          have he587024 : F587018 q586846 = .inr (22, [.ref (gm_0 9 0), .ref (gm_0 9 1), .ref (gm_0 9 2), .ref (gm_0 9 3), .ref (gm_0 9 4), .ref (gm_0 9 5), .ref (gm_0 9 6), .ref (gm_0 9 7), .ref (gm_0 9 8), .int p586867, .int p586868, .int p586869, .int p586870, .int p586871, .int p586872, .ref (gm_0 9 15), .ref (gm_0 9 16), .ref (gm_0 9 17), .ref (gm_0 9 18), .ref (gm_0 9 19), .ref (gm_0 9 20), .ref (gm_0 9 21), .ref (gm_0 9 22), .int p586873, .int p586874, .int p586875, .int p586876, .int p586877, .ref q586865, .ref (gm_0 9 29), .int 0, .ref (gm_0 9 31), .int p586879, .int p586880, .int p586881, .ref q586866]) := (x587016).trans he586916
          rw [show Int32.toInt 0 = 0 from by decide] at x587015
          change G _ _ _ _ _ _ _ _ _ _ _
          refine G_widen (cs' := ((rPh gm_0 el_0 f - rPh γ0 el0 f) / 18)) (sl' := (rPh gm_0 el_0 f - rPh γ0 el0 f)) (rm_d0 hdc) (rm_d0 hds) ?_
          refine G_iload_n 1 dr_cX17_look_109 rfl ?_
          refine G_if_lt 129 dr_cX17_look_110 (by decide +kernel) (fun hc587025 => ?_) (fun hc587025 => ?_)
          · have r587026 : p586847.toInt < 0 := gj_lt hc587025 (show Int32.toInt 0 = 0 by decide)
            have bp586847' : gB p586847 (-2147483648) (-1) := ⟨by omega, by omega⟩
            have ac587027 : (fI (F587018 q586846) 10).toInt = (fI (F586913 q586846) 10).toInt := by rw [kp587022]
            refine G_aload_n 0 dr_cX17_look_129 rfl ?_
            refine G_iconst 3 dr_cX17_look_130 (by decide +kernel) ?_
            refine Gw_callV (As := [.int 3]) (gV_ok D I) (ct_586932_SpillForgeModel_no l hl0 D I gm_0 el_0 P586844 F587018 q586846 3 hT587019 htq586846) dr_cX17_look_131 ⟨wr_7_191, wr_1_14, wr_7_194, by decide, rfl, (Nat.le_of_ble_eq_true rfl), (Nat.le_of_ble_eq_true rfl)⟩ wr_7_193 wr_p_73 hm586863 he587024 rfl (rm_zc pk586857) (rm_zs pk586857) (Nat.le_of_ble_eq_true rfl) (fun r587031 w587032 dc587028 ds587029 hp587030 => ?_) (fun _ _ _ _ _ z => z.elim)
            obtain ⟨F587036, rfl, rfl, hT587037, hs587038, hdc, hds, x587033, x587034, ht587035⟩ := hp587030
            have hs587039 := rSk_str hs587021 hT587037 hs587038 (by decide) (by decide) (by decide)
            have mk587040 : mKp (F586845 q586846) (F587036 q586846) := mKp_tr mk587023 x587034
            change G _ _ _ _ _ _ _ (.int 0 :: _) _ _ _
            refine G_widen (cs' := ((rPh gm_0 el_0 f - rPh γ0 el0 f) / 18)) (sl' := (rPh gm_0 el_0 f - rPh γ0 el0 f)) (rm_d0 hdc) (rm_d0 hds) ?_
            exact G_iretA dr_cX17_look_134 rfl (show ((rPh gm_0 el_0 f - rPh γ0 el0 f) / 18) ≤ (((387 * B + 6000) - rPh γ0 el0 f) / 18) by omega) (show (rPh gm_0 el_0 f - rPh γ0 el0 f) ≤ ((387 * B + 6000) - rPh γ0 el0 f) by omega) ⟨P586844, F587036, gm_0, el_0, 0, rfl, rfl, hs587039, ⟨by omega, by omega⟩, hB, (by have qa0 : Int32.toInt 0 = 0 := (by decide); omega), mk587040, (fun R c1 c2 c3 c4 c5 c6 c7 c8 c9 c10 c11 c12 => c2 gm_0 el_0 F586913 p586867 F587018 F587036 hγ0 hel0 n586915 fq586918 fq586923 r586925 r587004 r587006 r587008 fq587009 hT587019 hs587020 x587015 x587016 ht587017 r587026 hT587037 hs587038 x587033 x587034 ht587035)⟩
          · have r587041 : 0 ≤ p586847.toInt := gj_nlt hc587025 (show Int32.toInt 0 = 0 by decide)
            have bp586847' : gB p586847 0 2147483647 := ⟨by omega, by omega⟩
            refine G_iload_n 1 dr_cX17_look_113 rfl ?_
            refine G_sipush 2000 dr_cX17_look_114 (by decide +kernel) ?_
            refine G_icmp_ge 129 dr_cX17_look_117 (by decide +kernel) (fun hc587042 => ?_) (fun hc587042 => ?_)
            · have r587043 : 2000 ≤ p586847.toInt := gj_leL hc587042 (show Int32.toInt 2000 = 2000 by decide)
              have bp586847'' : gB p586847 2000 2147483647 := ⟨by omega, by omega⟩
              have ac587044 : (fI (F587018 q586846) 10).toInt = (fI (F586913 q586846) 10).toInt := by rw [kp587022]
              refine G_aload_n 0 dr_cX17_look_129 rfl ?_
              refine G_iconst 3 dr_cX17_look_130 (by decide +kernel) ?_
              refine Gw_callV (As := [.int 3]) (gV_ok D I) (ct_586932_SpillForgeModel_no l hl0 D I gm_0 el_0 P586844 F587018 q586846 3 hT587019 htq586846) dr_cX17_look_131 ⟨wr_7_191, wr_1_14, wr_7_194, by decide, rfl, (Nat.le_of_ble_eq_true rfl), (Nat.le_of_ble_eq_true rfl)⟩ wr_7_193 wr_p_73 hm586863 he587024 rfl (rm_zc pk586857) (rm_zs pk586857) (Nat.le_of_ble_eq_true rfl) (fun r587048 w587049 dc587045 ds587046 hp587047 => ?_) (fun _ _ _ _ _ z => z.elim)
              obtain ⟨F587053, rfl, rfl, hT587054, hs587055, hdc, hds, x587050, x587051, ht587052⟩ := hp587047
              have hs587056 := rSk_str hs587021 hT587054 hs587055 (by decide) (by decide) (by decide)
              have mk587057 : mKp (F586845 q586846) (F587053 q586846) := mKp_tr mk587023 x587051
              change G _ _ _ _ _ _ _ (.int 0 :: _) _ _ _
              refine G_widen (cs' := ((rPh gm_0 el_0 f - rPh γ0 el0 f) / 18)) (sl' := (rPh gm_0 el_0 f - rPh γ0 el0 f)) (rm_d0 hdc) (rm_d0 hds) ?_
              exact G_iretA dr_cX17_look_134 rfl (show ((rPh gm_0 el_0 f - rPh γ0 el0 f) / 18) ≤ (((387 * B + 6000) - rPh γ0 el0 f) / 18) by omega) (show (rPh gm_0 el_0 f - rPh γ0 el0 f) ≤ ((387 * B + 6000) - rPh γ0 el0 f) by omega) ⟨P586844, F587053, gm_0, el_0, 0, rfl, rfl, hs587056, ⟨by omega, by omega⟩, hB, (by have qa0 : Int32.toInt 0 = 0 := (by decide); omega), mk587057, (fun R c1 c2 c3 c4 c5 c6 c7 c8 c9 c10 c11 c12 => c3 gm_0 el_0 F586913 p586867 F587018 F587053 hγ0 hel0 n586915 fq586918 fq586923 r586925 r587004 r587006 r587008 fq587009 hT587019 hs587020 x587015 x587016 ht587017 r587041 r587043 hT587054 hs587055 x587050 x587051 ht587052)⟩
            · have r587058 : p586847.toInt < 2000 := gj_nleL hc587042 (show Int32.toInt 2000 = 2000 by decide)
              have bp586847'' : gB p586847 0 1999 := ⟨by omega, by omega⟩
              refine G_aload_n 0 dr_cX17_look_120 rfl ?_
              have fq587059 : fR (F587018 q586846) 3 = (gm_0 9 3) := by rw [he587024]; rfl
              refine Gp_get 3 hm586863 he587024 dr_cX17_look_121 (gk_X17 D I) (Nat.le_of_ble_eq_true rfl) wr_7_77 rfl ?_
              refine G_iload_n 1 dr_cX17_look_124 rfl ?_
              have hm587060 : (gm_0 9 3) ∈ P586844 := RS_m hT587019 ht586887 (by decide)
              obtain ⟨f587062, he587061, bf587062⟩ := show rk_14 I (F587018 (gm_0 9 3)) from RS_o hT587019 ht586887
              refine Gp_zald 3 hm587060 he587061 dr_cX17_look_125 rfl (gB_in bp586847'' (by decide) (by decide)) (G_nam fun z587063 hz587063 => ?_)
              have bz587063 : gB z587063 0 1 := by rw [hz587063]; exact bf587062 _
              refine G_if_ne 135 dr_cX17_look_126 (by decide +kernel) (fun hc587064 => ?_) (fun hc587064 => ?_)
              · have r587065 : z587063.toInt ≠ 0 := gj_neq hc587064 (show Int32.toInt 0 = 0 by decide)
                have bz587063' : gB z587063 1 1 := gB_t1 bz587063 r587065
                refine G_aload_n 0 dr_cX17_look_135 rfl ?_
                have fq587066 : fR (F587018 q586846) 8 = (gm_0 9 8) := by rw [he587024]; rfl
                refine Gp_get 8 hm586863 he587024 dr_cX17_look_136 (gk_X17 D I) (Nat.le_of_ble_eq_true rfl) wr_7_82 rfl ?_
                rw [show gm_0 9 8 = q586849 from (congrFun (rSk_9 hs587021) 8).trans hvq586849]
                refine G_aload_n 0 dr_cX17_look_139 rfl ?_
                have fq587067 : fR (F587018 q586846) 6 = (gm_0 9 6) := by rw [he587024]; rfl
                refine Gp_get 6 hm586863 he587024 dr_cX17_look_140 (gk_X17 D I) (Nat.le_of_ble_eq_true rfl) wr_7_80 rfl ?_
                rw [show gm_0 9 6 = q586850 from (congrFun (rSk_9 hs587021) 6).trans hvq586850]
                have rg587068 := rM_ge hT587019 htq586849 hf1
                have rm587069 := rM_bd hB
                have bd587070 := rBd_c hT587019 htq586849 hf1 hB
                have rc587071 := rc_at hT587019 htq586849 hf1
                have hm587077 : q586849 ∈ P586844 := RS_m hT587019 htq586849 (by decide)
                obtain ⟨q587079, q587080, p587081, p587082, he587078, ht587098, ht587083, ht587084, ht587085, ht587086, r587087, r587088, r587089, r587090, r587091, r587092, r587093, r587094, r587095, r587096, r587097⟩ := show rk_9 gm_0 el_0 q586849 (F587018 q586849) from RS_o hT587019 htq586849
                have bp587081 : gB p587081 0 1000000 := ⟨by omega, by omega⟩
                have bp587082 : gB p587082 0 1000000 := ⟨by omega, by omega⟩
                have hf587099 : gm_0 1 q587079 = f := (show gm_0 1 q587079 = gm_0 1 q586849 from ht587084).trans hf1
                have hf587100 : gm_0 1 q587080 = f := (show gm_0 1 q587080 = gm_0 1 q586849 from ht587086).trans hf1
                have r587101 : gm_0 6 (gm_0 1 q586849) = gm_0 6 f := by rw [hf1]
                have r587102 : gm_0 16 (gm_0 1 q586849) = gm_0 16 f := by rw [hf1]
                refine Gw_callV (As := [.ref q586850]) (gV_ok D I) (cg_195839_Code_copy l hl0 D I gm_0 el_0 f fo B P586844 F587018 q586849 q586850 hT587019 htq586849 htq586850 hf1 hfo1 hne hB hBk (by omega) (by omega) (by omega)) dr_cX17_look_143 ⟨wr_10_132, wr_1_15, wr_10_135, by decide, rfl, (Nat.le_of_ble_eq_true rfl), (Nat.le_of_ble_eq_true rfl)⟩ wr_10_133 wr_10_134 hm587077 he587078 rfl (rm_gc hph pk586857) (rm_gs hph pk586857) (Nat.le_of_ble_eq_true rfl) (fun r587075 w587076 dc587072 ds587073 hp587074 => ?_) (fun _ _ _ _ _ z => z.elim)
                obtain ⟨P587108, F587109, gm_F587109, el_F587109, rfl, rfl, hk587110, ⟨hr587111, hr587112⟩, hB587113, x587103, x587104, x587105, x587106, ht587107⟩ := hp587074
                have hT587114 := hk587110.1
                have hs587115 := rSk_tr hs587021 hk587110 (by decide) (by decide) (by decide)
                have kp587116 : F587109 q586846 = F586913 q586846 := (rSk_F hk587110 htq586846 (by decide) (by decide)).trans kp587022
                have r587117 := rSk_F hk587110 htq586846 (by decide) (by decide)
                have ht587118 : rKd gm_F587109 q586846 10 := rSk_k hk587110 htq586846 (by decide) (by decide)
                have ht587119 : rKd gm_F587109 q586849 9 := rSk_k hk587110 htq586849 (by decide) (by decide)
                have hf587120 : gm_F587109 1 q586849 = f := rSk_1 hk587110 htq586849 (by decide) hf1
                have ht587121 : rKd gm_F587109 q586850 9 := rSk_kf hk587110 htq586850 (by decide) (by rw [hfo1]; exact hne)
                have hf587122 : gm_F587109 1 q586850 = fo := rSk_1 hk587110 htq586850 (by decide) hfo1
                have mk587123 : mKp (F586845 q586846) (F587109 q586846) := mKp_tr mk587023 (mKp_eq (rSk_F hk587110 htq586846 (by decide) (by decide)))
                clear r587087 r587088 r587089 r587090 r587091 r587092 r587094 r587095 r587096 r587097 bp587081 bp587082 rg587068 rm587069 bd587070 rc587071
                clear r587093
                have hph587124 : rPh γ0 el0 f ≤ rPh gm_F587109 el_F587109 f := rm_ph hph hr587112
                have pk587125 : rPh gm_F587109 el_F587109 f ≤ 387 * B + 6000 := rm_pk (rM_ge hT587114 ht587119 hf587120).1 (rM_bd hB587113)
                change G _ _ _ _ _ _ _ _ _ _ _
                refine G_widen (cs' := ((rPh gm_F587109 el_F587109 f - rPh γ0 el0 f) / 18)) (sl' := (rPh gm_F587109 el_F587109 f - rPh γ0 el0 f)) (rm_wc hph hr587111) (rm_ws hph hr587112) ?_
                have r587126 := rSk_g hs587115 hne
                have r587127 : gm_F587109 6 fo = γ0 6 fo := r587126.1
                have r587128 : gm_F587109 7 fo = γ0 7 fo := r587126.2.1
                have r587129 : gm_F587109 16 fo = γ0 16 fo := r587126.2.2.1
                have r587130 : 0 < gm_F587109 6 (gm_F587109 1 q586849) := by rw [hf587120]; omega
                have r587131 : gm_F587109 6 (gm_F587109 1 q586850) = gm_F587109 6 fo := by rw [hf587122]
                refine G_aload_n 0 dr_cX17_look_146 rfl ?_
                refine G_aload_n 0 dr_cX17_look_147 rfl ?_
                have hm587132 : q586846 ∈ P587108 := RS_m hT587114 ht587118 (by decide)
                refine rk10_e (show rk_10 gm_F587109 (F587109 q586846) from RS_o hT587114 ht587118) (fun q587134 q587135 p587136 p587137 p587138 p587139 p587140 p587141 p587142 p587143 p587144 p587145 p587146 p587147 p587148 p587149 p587150 he587133 hB587177 ht587151 ht587152 ht587153 ht587154 ht587155 ht587156 ht587157 ht587158 ht587159 ht587160 ht587161 ht587162 ht587163 ht587164 ht587165 ht587166 ht587167 ht587168 ht587169 ht587170 ht587171 ht587172 ht587173 ht587174 hB587178 => ?_)
                have fq587179 : fR (F587109 q586846) 8 = (gm_F587109 9 8) := by rw [he587133]; rfl
                refine Gp_get 8 hm587132 he587133 dr_cX17_look_148 (gk_X17 D I) (Nat.le_of_ble_eq_true rfl) wr_7_82 rfl ?_
                rw [show gm_F587109 9 8 = q586849 from (congrFun (rSk_9 hs587115) 8).trans hvq586849]
                have rg587180 := rM_ge hT587114 ht587119 hf587120
                have rm587181 := rM_bd hB587113
                have bd587182 := rBd_c hT587114 ht587119 hf587120 hB587113
                have rc587183 := rc_at hT587114 ht587119 hf587120
                refine Gw_callV (As := [.ref q586849]) (gV_ok D I) (cg_365076_SpillForgeModel_zeros l hl0 D I gm_F587109 el_F587109 f B P587108 F587109 q586846 q586849 hT587114 ht587118 ht587119 hf587120 hB587113 hBk (by omega) (by omega)) dr_cX17_look_151 ⟨wr_10_152, wr_1_14, wr_10_155, by decide, rfl, (Nat.le_of_ble_eq_true rfl), (Nat.le_of_ble_eq_true rfl)⟩ wr_10_154 wr_p_93 hm587132 he587133 rfl (rm_gc hph587124 pk587125) (rm_gs hph587124 pk587125) (Nat.le_of_ble_eq_true rfl) (fun r587187 w587188 dc587184 ds587185 hp587186 => ?_) (fun _ _ _ _ _ z => z.elim)
                obtain ⟨P587195, F587196, gm_F587196, el_F587196, rfl, rfl, hk587197, ⟨hr587198, hr587199⟩, hB587200, x587189, x587190, x587191, x587192, x587193, ht587194⟩ := hp587186
                have hT587201 := hk587197.1
                have hs587202 := rSk_tr hs587115 hk587197 (by decide) (by decide) (by decide)
                have ht587203 : rKd gm_F587196 q586846 10 := rSk_k hk587197 ht587118 (by decide) (by decide)
                have ht587204 : rKd gm_F587196 q586849 9 := rSk_k hk587197 ht587119 (by decide) (by decide)
                have hf587205 : gm_F587196 1 q586849 = f := rSk_1 hk587197 ht587119 (by decide) hf587120
                have ht587206 : rKd gm_F587196 q586850 9 := rSk_kf hk587197 ht587121 (by decide) (by rw [hf587122]; exact hne)
                have hf587207 : gm_F587196 1 q586850 = fo := rSk_1 hk587197 ht587121 (by decide) hf587122
                clear rg587180 rm587181 bd587182 rc587183
                have mk587208 : mKp (F586845 q586846) (F587196 q586846) := mKp_tr mk587123 (mKp_eq x587193)
                have hph587209 : rPh γ0 el0 f ≤ rPh gm_F587196 el_F587196 f := rm_ph hph587124 hr587199
                have pk587210 : rPh gm_F587196 el_F587196 f ≤ 387 * B + 6000 := rm_pk (rM_ge hT587201 ht587204 hf587205).1 (rM_bd hB587200)
                change G _ _ _ _ _ _ _ _ _ _ _
                refine G_widen (cs' := ((rPh gm_F587196 el_F587196 f - rPh γ0 el0 f) / 18)) (sl' := (rPh gm_F587196 el_F587196 f - rPh γ0 el0 f)) (rm_wc hph587124 hr587198) (rm_ws hph587124 hr587199) ?_
                have r587211 := rSk_g hs587202 hne
                have r587212 : gm_F587196 6 fo = γ0 6 fo := r587211.1
                have r587213 : gm_F587196 7 fo = γ0 7 fo := r587211.2.1
                have r587214 : gm_F587196 16 fo = γ0 16 fo := r587211.2.2.1
                have r587215 : 0 < gm_F587196 6 (gm_F587196 1 q586849) := by rw [hf587205]; omega
                have r587216 : gm_F587196 6 (gm_F587196 1 q586850) = gm_F587196 6 fo := by rw [hf587207]
                refine G_aload_n 0 dr_cX17_look_154 rfl ?_
                refine G_aload_n 0 dr_cX17_look_155 rfl ?_
                have hm587217 : q586846 ∈ P587195 := RS_m hT587201 ht587203 (by decide)
                refine rk10_e (show rk_10 gm_F587196 (F587196 q586846) from RS_o hT587201 ht587203) (fun q587219 q587220 p587221 p587222 p587223 p587224 p587225 p587226 p587227 p587228 p587229 p587230 p587231 p587232 p587233 p587234 p587235 he587218 hB587262 ht587236 ht587237 ht587238 ht587239 ht587240 ht587241 ht587242 ht587243 ht587244 ht587245 ht587246 ht587247 ht587248 ht587249 ht587250 ht587251 ht587252 ht587253 ht587254 ht587255 ht587256 ht587257 ht587258 ht587259 hB587263 => ?_)
                have fq587264 : fR (F587196 q586846) 8 = (gm_F587196 9 8) := by rw [he587218]; rfl
                refine Gp_get 8 hm587217 he587218 dr_cX17_look_156 (gk_X17 D I) (Nat.le_of_ble_eq_true rfl) wr_7_82 rfl ?_
                rw [show gm_F587196 9 8 = q586849 from (congrFun (rSk_9 hs587202) 8).trans hvq586849]
                refine G_iconst 0 dr_cX17_look_159 (by decide +kernel) ?_
                refine Gw_callV (As := [.ref q586849, .int 0]) (gV_ok D I) (ct_276669_SpillForgeModel_graph l hl0 D I gm_F587196 el_F587196 P587195 F587196 q586846 q586849 0 hT587201 ht587203 ht587204 (gB_w (gBl (show Int32.toInt 0 = 0 by decide)) (by decide) (by decide)) (by omega)) dr_cX17_look_160 ⟨wr_10_233, wr_1_14, wr_10_236, by decide, rfl, (Nat.le_of_ble_eq_true rfl), (Nat.le_of_ble_eq_true rfl)⟩ wr_10_235 wr_p_99 hm587217 he587218 rfl (rm_zc pk587210) (rm_zs pk587210) (Nat.le_of_ble_eq_true rfl) (fun r587268 w587269 dc587265 ds587266 hp587267 => ?_) (fun _ _ _ _ _ z => z.elim)
                obtain ⟨F587273, rfl, rfl, hT587274, hs587275, hdc, hds, x587270, x587271, ht587272⟩ := hp587267
                have hs587276 := rSk_str hs587202 hT587274 hs587275 (by decide) (by decide) (by decide)
                have kp587277 : F587273 q586846 = F586913 q586846 := (x587271).trans (x587193.trans kp587116)
                have mk587278 : mKp (F586845 q586846) (F587273 q586846) := mKp_tr mk587208 (mKp_eq x587271)
                have he587279 : F587273 q586846 = .inr (22, [.ref (gm_F587196 9 0), .ref (gm_F587196 9 1), .ref (gm_F587196 9 2), .ref (gm_F587196 9 3), .ref (gm_F587196 9 4), .ref (gm_F587196 9 5), .ref (gm_F587196 9 6), .ref (gm_F587196 9 7), .ref (gm_F587196 9 8), .int p587221, .int p587222, .int p587223, .int p587224, .int p587225, .int p587226, .ref (gm_F587196 9 15), .ref (gm_F587196 9 16), .ref (gm_F587196 9 17), .ref (gm_F587196 9 18), .ref (gm_F587196 9 19), .ref (gm_F587196 9 20), .ref (gm_F587196 9 21), .ref (gm_F587196 9 22), .int p587227, .int p587228, .int p587229, .int p587230, .int p587231, .ref q587219, .ref (gm_F587196 9 29), .int p587232, .ref (gm_F587196 9 31), .int p587233, .int p587234, .int p587235, .ref q587220]) := (x587271).trans he587218
                rw [show Int32.toInt 0 = 0 from by decide] at x587270
                change G _ _ _ _ _ _ _ _ _ _ _
                refine G_widen (cs' := ((rPh gm_F587196 el_F587196 f - rPh γ0 el0 f) / 18)) (sl' := (rPh gm_F587196 el_F587196 f - rPh γ0 el0 f)) (rm_d0 hdc) (rm_d0 hds) ?_
                refine G_aload_n 0 dr_cX17_look_163 rfl ?_
                refine G_aload_n 0 dr_cX17_look_164 rfl ?_
                have fq587280 : fR (F587273 q586846) 8 = (gm_F587196 9 8) := by rw [he587279]; rfl
                refine Gp_get 8 hm587217 he587279 dr_cX17_look_165 (gk_X17 D I) (Nat.le_of_ble_eq_true rfl) wr_7_82 rfl ?_
                rw [show gm_F587196 9 8 = q586849 from (congrFun (rSk_9 hs587276) 8).trans hvq586849]
                refine Gw_callV (As := [.ref q586849]) (gV_ok D I) (ct_407681_SpillForgeModel_weigh l hl0 D I gm_F587196 el_F587196 P587195 F587273 q586846 q586849 hT587274 ht587203 ht587204 (by omega)) dr_cX17_look_168 ⟨wr_11_33, wr_1_14, wr_11_36, by decide, rfl, (Nat.le_of_ble_eq_true rfl), (Nat.le_of_ble_eq_true rfl)⟩ wr_11_35 wr_p_104 hm587217 he587279 rfl (rm_zc pk587210) (rm_zs pk587210) (Nat.le_of_ble_eq_true rfl) (fun r587284 w587285 dc587281 ds587282 hp587283 => ?_) (fun _ _ _ _ _ z => z.elim)
                obtain ⟨F587289, rfl, rfl, hT587290, hs587291, hdc, hds, x587286, x587287, ht587288⟩ := hp587283
                have hs587292 := rSk_str hs587276 hT587290 hs587291 (by decide) (by decide) (by decide)
                have kp587293 : F587289 q586846 = F586913 q586846 := (x587286).trans kp587277
                have mk587294 : mKp (F586845 q586846) (F587289 q586846) := mKp_tr mk587278 (mKp_eq x587286)
                have he587295 : F587289 q586846 = .inr (22, [.ref (gm_F587196 9 0), .ref (gm_F587196 9 1), .ref (gm_F587196 9 2), .ref (gm_F587196 9 3), .ref (gm_F587196 9 4), .ref (gm_F587196 9 5), .ref (gm_F587196 9 6), .ref (gm_F587196 9 7), .ref (gm_F587196 9 8), .int p587221, .int p587222, .int p587223, .int p587224, .int p587225, .int p587226, .ref (gm_F587196 9 15), .ref (gm_F587196 9 16), .ref (gm_F587196 9 17), .ref (gm_F587196 9 18), .ref (gm_F587196 9 19), .ref (gm_F587196 9 20), .ref (gm_F587196 9 21), .ref (gm_F587196 9 22), .int p587227, .int p587228, .int p587229, .int p587230, .int p587231, .ref q587219, .ref (gm_F587196 9 29), .int p587232, .ref (gm_F587196 9 31), .int p587233, .int p587234, .int p587235, .ref q587220]) := (x587286).trans he587279
                change G _ _ _ _ _ _ _ _ _ _ _
                refine G_widen (cs' := ((rPh gm_F587196 el_F587196 f - rPh γ0 el0 f) / 18)) (sl' := (rPh gm_F587196 el_F587196 f - rPh γ0 el0 f)) (rm_d0 hdc) (rm_d0 hds) ?_
                refine G_iload_n 2 dr_cX17_look_171 rfl ?_
                refine G_if_ne 184 dr_cX17_look_172 (by decide +kernel) (fun hc587296 => ?_) (fun hc587296 => ?_)
                · have r587297 : p586848.toInt ≠ 0 := gj_neq hc587296 (show Int32.toInt 0 = 0 by decide)
                  have bp586848'''' : gB p586848 1 1 := gB_t1 bp586848''' r587297
                  refine G_aload_n 0 dr_cX17_look_184 rfl ?_
                  have fq587298 : fR (F587289 q586846) 1 = (gm_F587196 9 1) := by rw [he587295]; rfl
                  refine Gp_get 1 hm587217 he587295 dr_cX17_look_185 (gk_X17 D I) (Nat.le_of_ble_eq_true rfl) wr_7_75 rfl ?_
                  refine G_iload_n 1 dr_cX17_look_188 rfl ?_
                  have hm587299 : (gm_F587196 9 1) ∈ P587195 := RS_m hT587290 ht587239 (by decide)
                  obtain ⟨f587301, he587300, hg587302⟩ := show rk_13 I gm_F587196 (F587289 (gm_F587196 9 1)) from RS_o hT587290 ht587239
                  obtain ⟨q587303, hx587305⟩ : ∃ x, x = gm_F587196 11 p586847.toInt.toNat := ⟨_, rfl⟩
                  have ht587304 : rKd gm_F587196 q587303 36 := by rw [hx587305]; exact (hg587302 _ (show p586847.toInt.toNat < 2000 by omega)).2.1
                  refine Gp_aald 5 hm587299 he587300 dr_cX17_look_189 rfl rfl (gB_in bp586847'' (by decide) (by decide)) ?_
                  rw [show f587301 p586847.toNatClampNeg = some q587303 from (hg587302 _ (show p586847.toInt.toNat < 2000 by omega)).1.trans (by rw [hx587305])]
                  change G _ _ _ _ _ _ _ (.ref q587303 :: _) _ _ _
                  have hm587306 : q587303 ∈ P587195 := RS_m hT587290 ht587304 (by decide)
                  obtain ⟨f587308, he587307, wf587308⟩ := show rk_36 I (F587289 q587303) from RS_o hT587290 ht587304
                  refine Gw_callS (As := [.ref q587303]) (gV_ok D I) (cp_1899_SpillForgeModel_count l hl0 D I P587195 F587289 q587303 f587308 hm587306 he587307) dr_cX17_look_190 ⟨wr_11_16, wr_1_14, wr_11_18, by decide, rfl, (Nat.le_of_ble_eq_true rfl), (Nat.le_of_ble_eq_true rfl)⟩ wr_11_17 (rm_zc pk587210) (rm_zs pk587210) (Nat.le_of_ble_eq_true rfl) (fun r587312 w587313 dc587309 ds587310 hp587311 => ?_) (fun _ _ _ _ _ z => z.elim)
                  obtain ⟨o587314, rfl, rfl, hdc, hds, ht587315⟩ := hp587311
                  have bo587314 := gB_any o587314
                  change G _ _ _ _ _ _ _ (.int o587314 :: _) _ _ _
                  refine G_widen (cs' := ((rPh gm_F587196 el_F587196 f - rPh γ0 el0 f) / 18)) (sl' := (rPh gm_F587196 el_F587196 f - rPh γ0 el0 f)) (rm_d0 hdc) (rm_d0 hds) ?_
                  have ac587316 : (fI (F587289 q586846) 10).toInt = (fI (F586913 q586846) 10).toInt := by rw [kp587293]
                  exact G_iretA dr_cX17_look_193 rfl (show ((rPh gm_F587196 el_F587196 f - rPh γ0 el0 f) / 18) ≤ (((387 * B + 6000) - rPh γ0 el0 f) / 18) by omega) (show (rPh gm_F587196 el_F587196 f - rPh γ0 el0 f) ≤ ((387 * B + 6000) - rPh γ0 el0 f) by omega) ⟨P587195, F587289, gm_F587196, el_F587196, o587314, rfl, rfl, hs587292, ⟨by omega, by omega⟩, hB587200, (by omega), mk587294, (fun R c1 c2 c3 c4 c5 c6 c7 c8 c9 c10 c11 c12 => c4 gm_0 el_0 F586913 p586867 F587018 f587062 z587063 P587108 F587109 gm_F587109 el_F587109 P587195 F587196 gm_F587196 el_F587196 F587273 F587289 q587303 f587308 o587314 hγ0 hel0 n586915 fq586918 fq586923 r586925 r587004 r587006 r587008 fq587009 hT587019 hs587020 x587015 x587016 ht587017 r587041 r587058 fq587059 he587061 hz587063 bz587063 r587065 fq587066 fq587067 hk587110 x587103 x587104 x587105 x587106 ht587107 fq587179 hk587197 x587189 x587190 x587191 x587192 x587193 ht587194 fq587264 hT587274 hs587275 x587270 x587271 ht587272 fq587280 hT587290 hs587291 x587286 x587287 ht587288 r587297 fq587298 hx587305 he587307 ht587315)⟩
                · have r587317 : p586848.toInt = 0 := gj_eq hc587296 (show Int32.toInt 0 = 0 by decide)
                  have bp586848'''' : gB p586848 0 0 := gB_t0 r587317
                  refine G_aload_n 0 dr_cX17_look_175 rfl ?_
                  have fq587318 : fR (F587289 q586846) 5 = (gm_F587196 9 5) := by rw [he587295]; rfl
                  refine Gp_get 5 hm587217 he587295 dr_cX17_look_176 (gk_X17 D I) (Nat.le_of_ble_eq_true rfl) wr_7_79 rfl ?_
                  refine G_iload_n 1 dr_cX17_look_179 rfl ?_
                  have hm587319 : (gm_F587196 9 5) ∈ P587195 := RS_m hT587290 ht587243 (by decide)
                  obtain ⟨f587321, he587320⟩ := show rk_17 I (F587289 (gm_F587196 9 5)) from RS_o hT587290 ht587243
                  refine Gp_iald 0 hm587319 he587320 dr_cX17_look_180 rfl (gB_in bp586847'' (by decide) (by decide)) (G_nam fun z587322 hz587322 => ?_)
                  have bz587322 : gB z587322 (-2147483648) 2147483647 := gB_any z587322
                  refine G_goto 193 dr_cX17_look_181 (by decide +kernel) ?_
                  have ac587323 : (fI (F587289 q586846) 10).toInt = (fI (F586913 q586846) 10).toInt := by rw [kp587293]
                  exact G_iretA dr_cX17_look_193 rfl (show ((rPh gm_F587196 el_F587196 f - rPh γ0 el0 f) / 18) ≤ (((387 * B + 6000) - rPh γ0 el0 f) / 18) by omega) (show (rPh gm_F587196 el_F587196 f - rPh γ0 el0 f) ≤ ((387 * B + 6000) - rPh γ0 el0 f) by omega) ⟨P587195, F587289, gm_F587196, el_F587196, z587322, rfl, rfl, hs587292, ⟨by omega, by omega⟩, hB587200, (by omega), mk587294, (fun R c1 c2 c3 c4 c5 c6 c7 c8 c9 c10 c11 c12 => c5 gm_0 el_0 F586913 p586867 F587018 f587062 z587063 P587108 F587109 gm_F587109 el_F587109 P587195 F587196 gm_F587196 el_F587196 F587273 F587289 f587321 z587322 hγ0 hel0 n586915 fq586918 fq586923 r586925 r587004 r587006 r587008 fq587009 hT587019 hs587020 x587015 x587016 ht587017 r587041 r587058 fq587059 he587061 hz587063 bz587063 r587065 fq587066 fq587067 hk587110 x587103 x587104 x587105 x587106 ht587107 fq587179 hk587197 x587189 x587190 x587191 x587192 x587193 ht587194 fq587264 hT587274 hs587275 x587270 x587271 ht587272 fq587280 hT587290 hs587291 x587286 x587287 ht587288 r587317 fq587318 he587320 hz587322)⟩
              · have r587324 : z587063.toInt = 0 := gj_eq hc587064 (show Int32.toInt 0 = 0 by decide)
                have bz587063' : gB z587063 0 0 := gB_t0 r587324
                have ac587325 : (fI (F587018 q586846) 10).toInt = (fI (F586913 q586846) 10).toInt := by rw [kp587022]
                refine G_aload_n 0 dr_cX17_look_129 rfl ?_
                refine G_iconst 3 dr_cX17_look_130 (by decide +kernel) ?_
                refine Gw_callV (As := [.int 3]) (gV_ok D I) (ct_586932_SpillForgeModel_no l hl0 D I gm_0 el_0 P586844 F587018 q586846 3 hT587019 htq586846) dr_cX17_look_131 ⟨wr_7_191, wr_1_14, wr_7_194, by decide, rfl, (Nat.le_of_ble_eq_true rfl), (Nat.le_of_ble_eq_true rfl)⟩ wr_7_193 wr_p_73 hm586863 he587024 rfl (rm_zc pk586857) (rm_zs pk586857) (Nat.le_of_ble_eq_true rfl) (fun r587329 w587330 dc587326 ds587327 hp587328 => ?_) (fun _ _ _ _ _ z => z.elim)
                obtain ⟨F587334, rfl, rfl, hT587335, hs587336, hdc, hds, x587331, x587332, ht587333⟩ := hp587328
                have hs587337 := rSk_str hs587021 hT587335 hs587336 (by decide) (by decide) (by decide)
                have mk587338 : mKp (F586845 q586846) (F587334 q586846) := mKp_tr mk587023 x587332
                change G _ _ _ _ _ _ _ (.int 0 :: _) _ _ _
                refine G_widen (cs' := ((rPh gm_0 el_0 f - rPh γ0 el0 f) / 18)) (sl' := (rPh gm_0 el_0 f - rPh γ0 el0 f)) (rm_d0 hdc) (rm_d0 hds) ?_
                exact G_iretA dr_cX17_look_134 rfl (show ((rPh gm_0 el_0 f - rPh γ0 el0 f) / 18) ≤ (((387 * B + 6000) - rPh γ0 el0 f) / 18) by omega) (show (rPh gm_0 el_0 f - rPh γ0 el0 f) ≤ ((387 * B + 6000) - rPh γ0 el0 f) by omega) ⟨P586844, F587334, gm_0, el_0, 0, rfl, rfl, hs587337, ⟨by omega, by omega⟩, hB, (by have qa0 : Int32.toInt 0 = 0 := (by decide); omega), mk587338, (fun R c1 c2 c3 c4 c5 c6 c7 c8 c9 c10 c11 c12 => c6 gm_0 el_0 F586913 p586867 F587018 f587062 z587063 F587334 hγ0 hel0 n586915 fq586918 fq586923 r586925 r587004 r587006 r587008 fq587009 hT587019 hs587020 x587015 x587016 ht587017 r587041 r587058 fq587059 he587061 hz587063 bz587063 r587324 hT587335 hs587336 x587331 x587332 ht587333)⟩
        · have r587339 : 1 < p586848.toInt := gj_nle hc587007 (show Int32.toInt 1 = 1 by decide)
          have bp586848''' : gB p586848 2 3 := ⟨by omega, by omega⟩
          refine G_iload_n 1 dr_cX17_look_38 rfl ?_
          refine G_if_lt 53 dr_cX17_look_39 (by decide +kernel) (fun hc587340 => ?_) (fun hc587340 => ?_)
          · have r587341 : p586847.toInt < 0 := gj_lt hc587340 (show Int32.toInt 0 = 0 by decide)
            have bp586847' : gB p586847 (-2147483648) (-1) := ⟨by omega, by omega⟩
            refine G_aload_n 0 dr_cX17_look_53 rfl ?_
            refine G_iconst 3 dr_cX17_look_54 (by decide +kernel) ?_
            refine Gw_callV (As := [.int 3]) (gV_ok D I) (ct_586932_SpillForgeModel_no l hl0 D I gm_0 el_0 P586844 F586913 q586846 3 hT586919 htq586846) dr_cX17_look_55 ⟨wr_7_191, wr_1_14, wr_7_194, by decide, rfl, (Nat.le_of_ble_eq_true rfl), (Nat.le_of_ble_eq_true rfl)⟩ wr_7_193 wr_p_73 hm586863 he586916 rfl (rm_zc pk586857) (rm_zs pk586857) (Nat.le_of_ble_eq_true rfl) (fun r587345 w587346 dc587342 ds587343 hp587344 => ?_) (fun _ _ _ _ _ z => z.elim)
            obtain ⟨F587350, rfl, rfl, hT587351, hs587352, hdc, hds, x587347, x587348, ht587349⟩ := hp587344
            have hs587353 := rSk_str hs586920 hT587351 hs587352 (by decide) (by decide) (by decide)
            have mk587354 : mKp (F586845 q586846) (F587350 q586846) := mKp_tr mk586917 x587348
            change G _ _ _ _ _ _ _ (.int 0 :: _) _ _ _
            refine G_widen (cs' := ((rPh gm_0 el_0 f - rPh γ0 el0 f) / 18)) (sl' := (rPh gm_0 el_0 f - rPh γ0 el0 f)) (rm_d0 hdc) (rm_d0 hds) ?_
            exact G_iretA dr_cX17_look_58 rfl (show ((rPh gm_0 el_0 f - rPh γ0 el0 f) / 18) ≤ (((387 * B + 6000) - rPh γ0 el0 f) / 18) by omega) (show (rPh gm_0 el_0 f - rPh γ0 el0 f) ≤ ((387 * B + 6000) - rPh γ0 el0 f) by omega) ⟨P586844, F587350, gm_0, el_0, 0, rfl, rfl, hs587353, ⟨by omega, by omega⟩, hB, (by have qa0 : Int32.toInt 0 = 0 := (by decide); omega), mk587354, (fun R c1 c2 c3 c4 c5 c6 c7 c8 c9 c10 c11 c12 => c7 gm_0 el_0 F586913 p586867 F587350 hγ0 hel0 n586915 fq586918 fq586923 r586925 r587004 r587006 r587339 r587341 hT587351 hs587352 x587347 x587348 ht587349)⟩
          · have r587355 : 0 ≤ p586847.toInt := gj_nlt hc587340 (show Int32.toInt 0 = 0 by decide)
            have bp586847' : gB p586847 0 2147483647 := ⟨by omega, by omega⟩
            refine G_iload_n 1 dr_cX17_look_42 rfl ?_
            refine G_aload_n 0 dr_cX17_look_43 rfl ?_
            have fq587356 : fR (F586913 q586846) 6 = (gm_0 9 6) := by rw [he586916]; rfl
            refine Gp_get 6 hm586863 he586916 dr_cX17_look_44 (gk_X17 D I) (Nat.le_of_ble_eq_true rfl) wr_7_80 rfl ?_
            rw [show gm_0 9 6 = q586850 from (congrFun (rSk_9 hs586920) 6).trans hvq586850]
            have hm587357 : q586850 ∈ P586844 := RS_m hT586919 htq586850 (by decide)
            obtain ⟨q587359, q587360, p587361, p587362, he587358, ht587378, ht587363, ht587364, ht587365, ht587366, r587367, r587368, r587369, r587370, r587371, r587372, r587373, r587374, r587375, r587376, r587377⟩ := show rk_9 gm_0 el_0 q586850 (F586913 q586850) from RS_o hT586919 htq586850
            have bp587361 : gB p587361 0 1000000 := ⟨by omega, by omega⟩
            have bp587362 : gB p587362 0 1000000 := ⟨by omega, by omega⟩
            have hf587379 : gm_0 1 q587359 = fo := (show gm_0 1 q587359 = gm_0 1 q586850 from ht587364).trans hfo1
            have hf587380 : gm_0 1 q587360 = fo := (show gm_0 1 q587360 = gm_0 1 q586850 from ht587366).trans hfo1
            have r587381 : gm_0 6 (gm_0 1 q586850) = gm_0 6 fo := by rw [hfo1]
            have r587382 : gm_0 16 (gm_0 1 q586850) = gm_0 16 fo := by rw [hfo1]
            have r587383 : p587362.toInt = gm_0 6 fo ∧ p587362.toInt ≤ 40 := by omega
            clear r587373
            have fq587384 : fI (F586913 q586850) 3 = p587362 := by rw [he587358]; rfl
            refine Gw_callV (As := []) (gV_ok D I) (cp_12780_Code_size l hl0 D I P586844 F586913 q586850 q587359 q587360 p587361 p587362 hm587357 he587358) dr_cX17_look_47 ⟨wr_10_160, wr_1_15, wr_9_131, by decide, rfl, (Nat.le_of_ble_eq_true rfl), (Nat.le_of_ble_eq_true rfl)⟩ wr_9_129 wr_9_130 hm587357 he587358 rfl (rm_zc pk586857) (rm_zs pk586857) (Nat.le_of_ble_eq_true rfl) (fun r587388 w587389 dc587385 ds587386 hp587387 => ?_) (fun _ _ _ _ _ z => z.elim)
            obtain ⟨rfl, rfl, hdc, hds⟩ := hp587387
            change G _ _ _ _ _ _ _ (.int p587362 :: _) _ _ _
            refine G_widen (cs' := ((rPh gm_0 el_0 f - rPh γ0 el0 f) / 18)) (sl' := (rPh gm_0 el_0 f - rPh γ0 el0 f)) (rm_d0 hdc) (rm_d0 hds) ?_
            refine G_icmp_lt 59 dr_cX17_look_50 (by decide +kernel) (fun hc587390 => ?_) (fun hc587390 => ?_)
            · have r587391 : p586847.toInt < p587362.toInt := gC_lt hc587390
              have bp586847'' : gB p586847 0 999999 := ⟨by omega, by omega⟩
              have bp587362' : gB p587362 1 1000000 := ⟨by omega, by omega⟩
              refine G_aload_n 0 dr_cX17_look_59 rfl ?_
              refine G_aload_n 0 dr_cX17_look_60 rfl ?_
              refine Gp_get 6 hm586863 he586916 dr_cX17_look_61 (gk_X17 D I) (Nat.le_of_ble_eq_true rfl) wr_7_80 rfl ?_
              rw [show gm_0 9 6 = q586850 from (congrFun (rSk_9 hs586920) 6).trans hvq586850]
              refine G_iconst 0 dr_cX17_look_64 (by decide +kernel) ?_
              refine Gw_callV (As := [.ref q586850, .int 0]) (gV_ok D I) (ct_225065_SpillForgeModel_findLive l hl0 D I gm_0 el_0 P586844 F586913 q586846 q586850 0 hT586919 htq586846 htq586850 (gB_w (gBl (show Int32.toInt 0 = 0 by decide)) (by decide) (by decide)) (by omega)) dr_cX17_look_65 ⟨wr_10_156, wr_1_14, wr_10_159, by decide, rfl, (Nat.le_of_ble_eq_true rfl), (Nat.le_of_ble_eq_true rfl)⟩ wr_10_158 wr_p_94 hm586863 he586916 rfl (rm_zc pk586857) (rm_zs pk586857) (Nat.le_of_ble_eq_true rfl) (fun r587395 w587396 dc587392 ds587393 hp587394 => ?_) (fun _ _ _ _ _ z => z.elim)
              obtain ⟨F587399, rfl, rfl, hT587400, hs587401, hdc, hds, x587397, ht587398⟩ := hp587394
              have he587402 : F587399 q586850 = .inr (18, [.ref q587359, .ref q587360, .int p587361, .int p587362]) := (hs587401 q586850 (rT0 htq586850 (by decide)) (rT1 htq586850 (by decide)) (rT2 htq586850 (by decide))).trans he587358
              have hs587403 := rSk_str hs586920 hT587400 hs587401 (by decide) (by decide) (by decide)
              have kp587404 : F587399 q586846 = F586913 q586846 := x587397
              have mk587405 : mKp (F586845 q586846) (F587399 q586846) := mKp_tr mk586917 (mKp_eq x587397)
              have he587406 : F587399 q586846 = .inr (22, [.ref (gm_0 9 0), .ref (gm_0 9 1), .ref (gm_0 9 2), .ref (gm_0 9 3), .ref (gm_0 9 4), .ref (gm_0 9 5), .ref (gm_0 9 6), .ref (gm_0 9 7), .ref (gm_0 9 8), .int p586867, .int p586868, .int p586869, .int p586870, .int p586871, .int p586872, .ref (gm_0 9 15), .ref (gm_0 9 16), .ref (gm_0 9 17), .ref (gm_0 9 18), .ref (gm_0 9 19), .ref (gm_0 9 20), .ref (gm_0 9 21), .ref (gm_0 9 22), .int p586873, .int p586874, .int p586875, .int p586876, .int p586877, .ref q586865, .ref (gm_0 9 29), .int 0, .ref (gm_0 9 31), .int p586879, .int p586880, .int p586881, .ref q586866]) := (x587397).trans he586916
              change G _ _ _ _ _ _ _ _ _ _ _
              refine G_widen (cs' := ((rPh gm_0 el_0 f - rPh γ0 el0 f) / 18)) (sl' := (rPh gm_0 el_0 f - rPh γ0 el0 f)) (rm_d0 hdc) (rm_d0 hds) ?_
              refine G_aload_n 0 dr_cX17_look_68 rfl ?_
              refine G_aload_n 0 dr_cX17_look_69 rfl ?_
              have fq587407 : fR (F587399 q586846) 6 = (gm_0 9 6) := by rw [he587406]; rfl
              refine Gp_get 6 hm586863 he587406 dr_cX17_look_70 (gk_X17 D I) (Nat.le_of_ble_eq_true rfl) wr_7_80 rfl ?_
              rw [show gm_0 9 6 = q586850 from (congrFun (rSk_9 hs587403) 6).trans hvq586850]
              refine Gw_callV (As := [.ref q586850]) (gV_ok D I) (ct_407734_SpillForgeModel_findDepth l hl0 D I gm_0 el_0 P586844 F587399 q586846 q586850 hT587400 htq586846 htq586850 (by omega)) dr_cX17_look_73 ⟨wr_11_37, wr_1_14, wr_11_40, by decide, rfl, (Nat.le_of_ble_eq_true rfl), (Nat.le_of_ble_eq_true rfl)⟩ wr_11_39 wr_p_105 hm586863 he587406 rfl (rm_zc pk586857) (rm_zs pk586857) (Nat.le_of_ble_eq_true rfl) (fun r587411 w587412 dc587408 ds587409 hp587410 => ?_) (fun _ _ _ _ _ z => z.elim)
              obtain ⟨F587416, rfl, rfl, hT587417, hs587418, hdc, hds, x587413, x587414, ht587415⟩ := hp587410
              have he587419 : F587416 q586850 = .inr (18, [.ref q587359, .ref q587360, .int p587361, .int p587362]) := (hs587418 q586850 (rT0 htq586850 (by decide)) (rT1 htq586850 (by decide)) (rT2 htq586850 (by decide))).trans he587402
              have hs587420 := rSk_str hs587403 hT587417 hs587418 (by decide) (by decide) (by decide)
              have kp587421 : F587416 q586846 = F586913 q586846 := (x587413).trans kp587404
              have mk587422 : mKp (F586845 q586846) (F587416 q586846) := mKp_tr mk587405 (mKp_eq x587413)
              have he587423 : F587416 q586846 = .inr (22, [.ref (gm_0 9 0), .ref (gm_0 9 1), .ref (gm_0 9 2), .ref (gm_0 9 3), .ref (gm_0 9 4), .ref (gm_0 9 5), .ref (gm_0 9 6), .ref (gm_0 9 7), .ref (gm_0 9 8), .int p586867, .int p586868, .int p586869, .int p586870, .int p586871, .int p586872, .ref (gm_0 9 15), .ref (gm_0 9 16), .ref (gm_0 9 17), .ref (gm_0 9 18), .ref (gm_0 9 19), .ref (gm_0 9 20), .ref (gm_0 9 21), .ref (gm_0 9 22), .int p586873, .int p586874, .int p586875, .int p586876, .int p586877, .ref q586865, .ref (gm_0 9 29), .int 0, .ref (gm_0 9 31), .int p586879, .int p586880, .int p586881, .ref q586866]) := (x587413).trans he587406
              change G _ _ _ _ _ _ _ _ _ _ _
              refine G_widen (cs' := ((rPh gm_0 el_0 f - rPh γ0 el0 f) / 18)) (sl' := (rPh gm_0 el_0 f - rPh γ0 el0 f)) (rm_d0 hdc) (rm_d0 hds) ?_
              refine G_iload_n 2 dr_cX17_look_76 rfl ?_
              refine G_iconst 2 dr_cX17_look_77 (by decide +kernel) ?_
              refine G_icmp_ne 93 dr_cX17_look_78 (by decide +kernel) (fun hc587424 => ?_) (fun hc587424 => ?_)
              · have r587425 : p586848.toInt ≠ 2 := gj_neq hc587424 (show Int32.toInt 2 = 2 by decide)
                have bp586848'''' : gB p586848 3 3 := ⟨by omega, by omega⟩
                refine G_aload_n 0 dr_cX17_look_93 rfl ?_
                have fq587426 : fR (F587416 q586846) 4 = (gm_0 9 4) := by rw [he587423]; rfl
                refine Gp_get 4 hm586863 he587423 dr_cX17_look_94 (gk_X17 D I) (Nat.le_of_ble_eq_true rfl) wr_7_78 rfl ?_
                refine G_iload_n 1 dr_cX17_look_97 rfl ?_
                have hm587427 : (gm_0 9 4) ∈ P586844 := RS_m hT587417 ht586888 (by decide)
                obtain ⟨f587429, he587428⟩ := show rk_16 I (F587416 (gm_0 9 4)) from RS_o hT587417 ht586888
                refine Gp_iald 0 hm587427 he587428 dr_cX17_look_98 rfl (gB_inr (by omega) (by omega)) (G_nam fun z587430 hz587430 => ?_)
                have bz587430 : gB z587430 (-2147483648) 2147483647 := gB_any z587430
                have ac587431 : (fI (F587416 q586846) 10).toInt = (fI (F586913 q586846) 10).toInt := by rw [kp587421]
                exact G_iretA dr_cX17_look_99 rfl (show ((rPh gm_0 el_0 f - rPh γ0 el0 f) / 18) ≤ (((387 * B + 6000) - rPh γ0 el0 f) / 18) by omega) (show (rPh gm_0 el_0 f - rPh γ0 el0 f) ≤ ((387 * B + 6000) - rPh γ0 el0 f) by omega) ⟨P586844, F587416, gm_0, el_0, z587430, rfl, rfl, hs587420, ⟨by omega, by omega⟩, hB, (by omega), mk587422, (fun R c1 c2 c3 c4 c5 c6 c7 c8 c9 c10 c11 c12 => c8 gm_0 el_0 F586913 p586867 p587362 F587399 F587416 f587429 z587430 hγ0 hel0 n586915 fq586918 fq586923 r586925 r587004 r587006 r587339 r587355 fq587356 fq587384 r587391 hT587400 hs587401 x587397 ht587398 fq587407 hT587417 hs587418 x587413 x587414 ht587415 r587425 fq587426 he587428 hz587430)⟩
              · have r587432 : p586848.toInt = 2 := gj_eq hc587424 (show Int32.toInt 2 = 2 by decide)
                have bp586848'''' : gB p586848 2 2 := ⟨by omega, by omega⟩
                refine G_aload_n 0 dr_cX17_look_81 rfl ?_
                have fq587433 : fR (F587416 q586846) 0 = (gm_0 9 0) := by rw [he587423]; rfl
                refine Gp_get 0 hm586863 he587423 dr_cX17_look_82 (gk_X17 D I) (Nat.le_of_ble_eq_true rfl) wr_7_74 rfl ?_
                refine G_iload_n 1 dr_cX17_look_85 rfl ?_
                have hm587434 : (gm_0 9 0) ∈ P586844 := RS_m hT587417 ht586884 (by decide)
                obtain ⟨f587436, he587435, hg587437⟩ := show rk_12 I gm_0 (F587416 (gm_0 9 0)) from RS_o hT587417 ht586884
                obtain ⟨q587438, hx587440⟩ : ∃ x, x = gm_0 10 p586847.toInt.toNat := ⟨_, rfl⟩
                have ht587439 : rKd gm_0 q587438 11 := by rw [hx587440]; exact (hg587437 _ (show p586847.toInt.toNat < 40 by omega)).2.1
                refine Gp_aald 5 hm587434 he587435 dr_cX17_look_86 rfl rfl (gB_inr (by omega) (by omega)) ?_
                rw [show f587436 p586847.toNatClampNeg = some q587438 from (hg587437 _ (show p586847.toInt.toNat < 40 by omega)).1.trans (by rw [hx587440])]
                change G _ _ _ _ _ _ _ (.ref q587438 :: _) _ _ _
                have hm587441 : q587438 ∈ P586844 := RS_m hT587417 ht587439 (by decide)
                obtain ⟨f587443, he587442, wf587443⟩ := show rk_11 I (F587416 q587438) from RS_o hT587417 ht587439
                refine Gw_callS (As := [.ref q587438]) (gV_ok D I) (cp_1899_SpillForgeModel_count l hl0 D I P586844 F587416 q587438 f587443 hm587441 he587442) dr_cX17_look_87 ⟨wr_11_16, wr_1_14, wr_11_18, by decide, rfl, (Nat.le_of_ble_eq_true rfl), (Nat.le_of_ble_eq_true rfl)⟩ wr_11_17 (rm_zc pk586857) (rm_zs pk586857) (Nat.le_of_ble_eq_true rfl) (fun r587447 w587448 dc587444 ds587445 hp587446 => ?_) (fun _ _ _ _ _ z => z.elim)
                obtain ⟨o587449, rfl, rfl, hdc, hds, ht587450⟩ := hp587446
                have bo587449 := gB_any o587449
                change G _ _ _ _ _ _ _ (.int o587449 :: _) _ _ _
                refine G_widen (cs' := ((rPh gm_0 el_0 f - rPh γ0 el0 f) / 18)) (sl' := (rPh gm_0 el_0 f - rPh γ0 el0 f)) (rm_d0 hdc) (rm_d0 hds) ?_
                refine G_goto 99 dr_cX17_look_90 (by decide +kernel) ?_
                have ac587451 : (fI (F587416 q586846) 10).toInt = (fI (F586913 q586846) 10).toInt := by rw [kp587421]
                exact G_iretA dr_cX17_look_99 rfl (show ((rPh gm_0 el_0 f - rPh γ0 el0 f) / 18) ≤ (((387 * B + 6000) - rPh γ0 el0 f) / 18) by omega) (show (rPh gm_0 el_0 f - rPh γ0 el0 f) ≤ ((387 * B + 6000) - rPh γ0 el0 f) by omega) ⟨P586844, F587416, gm_0, el_0, o587449, rfl, rfl, hs587420, ⟨by omega, by omega⟩, hB, (by omega), mk587422, (fun R c1 c2 c3 c4 c5 c6 c7 c8 c9 c10 c11 c12 => c9 gm_0 el_0 F586913 p586867 p587362 F587399 F587416 q587438 f587443 o587449 hγ0 hel0 n586915 fq586918 fq586923 r586925 r587004 r587006 r587339 r587355 fq587356 fq587384 r587391 hT587400 hs587401 x587397 ht587398 fq587407 hT587417 hs587418 x587413 x587414 ht587415 r587432 fq587433 hx587440 he587442 ht587450)⟩
            · have r587452 : p587362.toInt ≤ p586847.toInt := gC_nlt hc587390
              refine G_aload_n 0 dr_cX17_look_53 rfl ?_
              refine G_iconst 3 dr_cX17_look_54 (by decide +kernel) ?_
              refine Gw_callV (As := [.int 3]) (gV_ok D I) (ct_586932_SpillForgeModel_no l hl0 D I gm_0 el_0 P586844 F586913 q586846 3 hT586919 htq586846) dr_cX17_look_55 ⟨wr_7_191, wr_1_14, wr_7_194, by decide, rfl, (Nat.le_of_ble_eq_true rfl), (Nat.le_of_ble_eq_true rfl)⟩ wr_7_193 wr_p_73 hm586863 he586916 rfl (rm_zc pk586857) (rm_zs pk586857) (Nat.le_of_ble_eq_true rfl) (fun r587456 w587457 dc587453 ds587454 hp587455 => ?_) (fun _ _ _ _ _ z => z.elim)
              obtain ⟨F587461, rfl, rfl, hT587462, hs587463, hdc, hds, x587458, x587459, ht587460⟩ := hp587455
              have he587464 : F587461 q586850 = .inr (18, [.ref q587359, .ref q587360, .int p587361, .int p587362]) := (hs587463 q586850 (rT0 htq586850 (by decide)) (rT1 htq586850 (by decide)) (rT2 htq586850 (by decide))).trans he587358
              have hs587465 := rSk_str hs586920 hT587462 hs587463 (by decide) (by decide) (by decide)
              have mk587466 : mKp (F586845 q586846) (F587461 q586846) := mKp_tr mk586917 x587459
              change G _ _ _ _ _ _ _ (.int 0 :: _) _ _ _
              refine G_widen (cs' := ((rPh gm_0 el_0 f - rPh γ0 el0 f) / 18)) (sl' := (rPh gm_0 el_0 f - rPh γ0 el0 f)) (rm_d0 hdc) (rm_d0 hds) ?_
              exact G_iretA dr_cX17_look_58 rfl (show ((rPh gm_0 el_0 f - rPh γ0 el0 f) / 18) ≤ (((387 * B + 6000) - rPh γ0 el0 f) / 18) by omega) (show (rPh gm_0 el_0 f - rPh γ0 el0 f) ≤ ((387 * B + 6000) - rPh γ0 el0 f) by omega) ⟨P586844, F587461, gm_0, el_0, 0, rfl, rfl, hs587465, ⟨by omega, by omega⟩, hB, (by have qa0 : Int32.toInt 0 = 0 := (by decide); omega), mk587466, (fun R c1 c2 c3 c4 c5 c6 c7 c8 c9 c10 c11 c12 => c10 gm_0 el_0 F586913 p586867 p587362 F587461 hγ0 hel0 n586915 fq586918 fq586923 r586925 r587004 r587006 r587339 r587355 fq587356 fq587384 r587452 hT587462 hs587463 x587458 x587459 ht587460)⟩
      · have r587467 : 3 < p586848.toInt := gj_nle hc587005 (show Int32.toInt 3 = 3 by decide)
        have bp586848'' : gB p586848 4 2147483647 := ⟨by omega, by omega⟩
        refine G_aload_n 0 dr_cX17_look_27 rfl ?_
        refine G_iconst 2 dr_cX17_look_28 (by decide +kernel) ?_
        refine Gw_callV (As := [.int 2]) (gV_ok D I) (ct_586932_SpillForgeModel_no l hl0 D I gm_0 el_0 P586844 F586913 q586846 2 hT586919 htq586846) dr_cX17_look_29 ⟨wr_7_191, wr_1_14, wr_7_194, by decide, rfl, (Nat.le_of_ble_eq_true rfl), (Nat.le_of_ble_eq_true rfl)⟩ wr_7_193 wr_p_73 hm586863 he586916 rfl (rm_zc pk586857) (rm_zs pk586857) (Nat.le_of_ble_eq_true rfl) (fun r587471 w587472 dc587468 ds587469 hp587470 => ?_) (fun _ _ _ _ _ z => z.elim)
        obtain ⟨F587476, rfl, rfl, hT587477, hs587478, hdc, hds, x587473, x587474, ht587475⟩ := hp587470
        have hs587479 := rSk_str hs586920 hT587477 hs587478 (by decide) (by decide) (by decide)
        have mk587480 : mKp (F586845 q586846) (F587476 q586846) := mKp_tr mk586917 x587474
        change G _ _ _ _ _ _ _ (.int 0 :: _) _ _ _
        refine G_widen (cs' := ((rPh gm_0 el_0 f - rPh γ0 el0 f) / 18)) (sl' := (rPh gm_0 el_0 f - rPh γ0 el0 f)) (rm_d0 hdc) (rm_d0 hds) ?_
        exact G_iretA dr_cX17_look_32 rfl (show ((rPh gm_0 el_0 f - rPh γ0 el0 f) / 18) ≤ (((387 * B + 6000) - rPh γ0 el0 f) / 18) by omega) (show (rPh gm_0 el_0 f - rPh γ0 el0 f) ≤ ((387 * B + 6000) - rPh γ0 el0 f) by omega) ⟨P586844, F587476, gm_0, el_0, 0, rfl, rfl, hs587479, ⟨by omega, by omega⟩, hB, (by have qa0 : Int32.toInt 0 = 0 := (by decide); omega), mk587480, (fun R c1 c2 c3 c4 c5 c6 c7 c8 c9 c10 c11 c12 => c11 gm_0 el_0 F586913 p586867 F587476 hγ0 hel0 n586915 fq586918 fq586923 r586925 r587004 r587467 hT587477 hs587478 x587473 x587474 ht587475)⟩
  · have r587481 : p586867.toInt = 0 := gj_eq hc586924 (show Int32.toInt 0 = 0 by decide)
    have bp586867' : gB p586867 0 0 := gB_t0 r587481
    refine G_aload_n 0 dr_cX17_look_12 rfl ?_
    refine G_iconst 1 dr_cX17_look_13 (by decide +kernel) ?_
    refine Gw_callV (As := [.int 1]) (gV_ok D I) (ct_586932_SpillForgeModel_no l hl0 D I gm_0 el_0 P586844 F586913 q586846 1 hT586919 htq586846) dr_cX17_look_14 ⟨wr_7_191, wr_1_14, wr_7_194, by decide, rfl, (Nat.le_of_ble_eq_true rfl), (Nat.le_of_ble_eq_true rfl)⟩ wr_7_193 wr_p_73 hm586863 he586916 rfl (rm_zc pk586857) (rm_zs pk586857) (Nat.le_of_ble_eq_true rfl) (fun r587485 w587486 dc587482 ds587483 hp587484 => ?_) (fun _ _ _ _ _ z => z.elim)
    obtain ⟨F587490, rfl, rfl, hT587491, hs587492, hdc, hds, x587487, x587488, ht587489⟩ := hp587484
    have hs587493 := rSk_str hs586920 hT587491 hs587492 (by decide) (by decide) (by decide)
    have mk587494 : mKp (F586845 q586846) (F587490 q586846) := mKp_tr mk586917 x587488
    change G _ _ _ _ _ _ _ (.int 0 :: _) _ _ _
    refine G_widen (cs' := ((rPh gm_0 el_0 f - rPh γ0 el0 f) / 18)) (sl' := (rPh gm_0 el_0 f - rPh γ0 el0 f)) (rm_d0 hdc) (rm_d0 hds) ?_
    exact G_iretA dr_cX17_look_17 rfl (show ((rPh gm_0 el_0 f - rPh γ0 el0 f) / 18) ≤ (((387 * B + 6000) - rPh γ0 el0 f) / 18) by omega) (show (rPh gm_0 el_0 f - rPh γ0 el0 f) ≤ ((387 * B + 6000) - rPh γ0 el0 f) by omega) ⟨P586844, F587490, gm_0, el_0, 0, rfl, rfl, hs587493, ⟨by omega, by omega⟩, hB, (by have qa0 : Int32.toInt 0 = 0 := (by decide); omega), mk587494, (fun R c1 c2 c3 c4 c5 c6 c7 c8 c9 c10 c11 c12 => c12 gm_0 el_0 F586913 p586867 F587490 hγ0 hel0 n586915 fq586918 fq586923 r587481 hT587491 hs587492 x587487 x587488 ht587489)⟩
