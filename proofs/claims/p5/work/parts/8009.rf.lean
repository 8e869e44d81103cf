theorem dr_cX17_word__0 : decode cX17_word_ 0 = .ok (.aload_n 0, 1) := by decide +kernel
theorem dr_cX17_word__1 : decode cX17_word_ 1 = .ok (.iconst 0, 1) := by decide +kernel
theorem dr_cX17_word__2 : decode cX17_word_ 2 = .ok (.putfield 380, 3) := by decide +kernel
theorem dr_cX17_word__5 : decode cX17_word_ 5 = .ok (.iload_n 1, 1) := by decide +kernel
theorem dr_cX17_word__6 : decode cX17_word_ 6 = .ok (.ifCond .lt 11, 3) := by decide +kernel
theorem dr_cX17_word__17 : decode cX17_word_ 17 = .ok (.aload_n 0, 1) := by decide +kernel
theorem dr_cX17_word__18 : decode cX17_word_ 18 = .ok (.iconst 1, 1) := by decide +kernel
theorem dr_cX17_word__19 : decode cX17_word_ 19 = .ok (.invokevirtual 385, 3) := by decide +kernel
theorem dr_cX17_word__22 : decode cX17_word_ 22 = .ok (.i2l, 1) := by decide +kernel
theorem dr_cX17_word__23 : decode cX17_word_ 23 = .ok (.lreturn, 1) := by decide +kernel
theorem dr_cX17_word__9 : decode cX17_word_ 9 = .ok (.iload_n 1, 1) := by decide +kernel
theorem dr_cX17_word__10 : decode cX17_word_ 10 = .ok (.aload_n 0, 1) := by decide +kernel
theorem dr_cX17_word__11 : decode cX17_word_ 11 = .ok (.getfield 426, 3) := by decide +kernel
theorem dr_cX17_word__14 : decode cX17_word_ 14 = .ok (.if_icmp .lt 10, 3) := by decide +kernel
theorem dr_cX17_word__24 : decode cX17_word_ 24 = .ok (.lconst 0, 1) := by decide +kernel
theorem dr_cX17_word__25 : decode cX17_word_ 25 = .ok (.lstore_n 2, 1) := by decide +kernel
theorem dr_cX17_word__26 : decode cX17_word_ 26 = .ok (.iconst 0, 1) := by decide +kernel
theorem dr_cX17_word__27 : decode cX17_word_ 27 = .ok (.istore 4, 2) := by decide +kernel
theorem dr_cX17_word__29 : decode cX17_word_ 29 = .ok (.iload 4, 2) := by decide +kernel
theorem dr_cX17_word__31 : decode cX17_word_ 31 = .ok (.bipush 8, 2) := by decide +kernel
theorem dr_cX17_word__33 : decode cX17_word_ 33 = .ok (.if_icmp .ge 44, 3) := by decide +kernel
theorem dr_cX17_word__77 : decode cX17_word_ 77 = .ok (.lload_n 2, 1) := by decide +kernel
theorem dr_cX17_word__78 : decode cX17_word_ 78 = .ok (.lreturn, 1) := by decide +kernel
theorem dr_cX17_word__36 : decode cX17_word_ 36 = .ok (.lload_n 2, 1) := by decide +kernel
theorem dr_cX17_word__37 : decode cX17_word_ 37 = .ok (.bipush 8, 2) := by decide +kernel
theorem dr_cX17_word__39 : decode cX17_word_ 39 = .ok (.lshl, 1) := by decide +kernel
theorem dr_cX17_word__40 : decode cX17_word_ 40 = .ok (.iload_n 1, 1) := by decide +kernel
theorem dr_cX17_word__41 : decode cX17_word_ 41 = .ok (.iload 4, 2) := by decide +kernel
theorem dr_cX17_word__43 : decode cX17_word_ 43 = .ok (.iadd, 1) := by decide +kernel
theorem dr_cX17_word__44 : decode cX17_word_ 44 = .ok (.aload_n 0, 1) := by decide +kernel
theorem dr_cX17_word__45 : decode cX17_word_ 45 = .ok (.getfield 426, 3) := by decide +kernel
theorem dr_cX17_word__48 : decode cX17_word_ 48 = .ok (.if_icmp .ge 19, 3) := by decide +kernel
theorem dr_cX17_word__67 : decode cX17_word_ 67 = .ok (.iconst 0, 1) := by decide +kernel
theorem dr_cX17_word__68 : decode cX17_word_ 68 = .ok (.i2l, 1) := by decide +kernel
theorem dr_cX17_word__69 : decode cX17_word_ 69 = .ok (.lor, 1) := by decide +kernel
theorem dr_cX17_word__70 : decode cX17_word_ 70 = .ok (.lstore_n 2, 1) := by decide +kernel
theorem dr_cX17_word__71 : decode cX17_word_ 71 = .ok (.iinc 4 1, 3) := by decide +kernel
theorem dr_cX17_word__74 : decode cX17_word_ 74 = .ok (.goto (-45), 3) := by decide +kernel
theorem dr_cX17_word__51 : decode cX17_word_ 51 = .ok (.aload_n 0, 1) := by decide +kernel
theorem dr_cX17_word__52 : decode cX17_word_ 52 = .ok (.getfield 378, 3) := by decide +kernel
theorem wr_7_109 : (Jvm.Cond.fieldLink "SpillForgeModel" (378 : Nat) "SpillForgeModel" "result" "[B") ∈ gw := gw_7 109 rfl rfl
theorem dr_cX17_word__55 : decode cX17_word_ 55 = .ok (.iload_n 1, 1) := by decide +kernel
theorem dr_cX17_word__56 : decode cX17_word_ 56 = .ok (.iload 4, 2) := by decide +kernel
theorem dr_cX17_word__58 : decode cX17_word_ 58 = .ok (.iadd, 1) := by decide +kernel
theorem dr_cX17_word__59 : decode cX17_word_ 59 = .ok (.baload, 1) := by decide +kernel
theorem dr_cX17_word__60 : decode cX17_word_ 60 = .ok (.sipush 255, 3) := by decide +kernel
theorem dr_cX17_word__63 : decode cX17_word_ 63 = .ok (.iand, 1) := by decide +kernel
theorem dr_cX17_word__64 : decode cX17_word_ 64 = .ok (.goto 4, 3) := by decide +kernel
theorem dr_cX17_look_0 : decode cX17_look 0 = .ok (.aload_n 0, 1) := by decide +kernel
theorem dr_cX17_look_1 : decode cX17_look 1 = .ok (.iconst 0, 1) := by decide +kernel
theorem dr_cX17_look_2 : decode cX17_look 2 = .ok (.putfield 380, 3) := by decide +kernel
theorem dr_cX17_look_5 : decode cX17_look 5 = .ok (.aload_n 0, 1) := by decide +kernel
theorem dr_cX17_look_6 : decode cX17_look 6 = .ok (.getfield 414, 3) := by decide +kernel
theorem dr_cX17_look_9 : decode cX17_look 9 = .ok (.ifCond .ne 9, 3) := by decide +kernel
theorem dr_cX17_look_18 : decode cX17_look 18 = .ok (.iload_n 2, 1) := by decide +kernel
theorem dr_cX17_look_19 : decode cX17_look 19 = .ok (.ifCond .lt 8, 3) := by decide +kernel
theorem dr_cX17_look_27 : decode cX17_look 27 = .ok (.aload_n 0, 1) := by decide +kernel
theorem dr_cX17_look_28 : decode cX17_look 28 = .ok (.iconst 2, 1) := by decide +kernel
theorem dr_cX17_look_29 : decode cX17_look 29 = .ok (.invokevirtual 385, 3) := by decide +kernel
theorem dr_cX17_look_32 : decode cX17_look 32 = .ok (.ireturn, 1) := by decide +kernel
theorem dr_cX17_look_22 : decode cX17_look 22 = .ok (.iload_n 2, 1) := by decide +kernel
theorem dr_cX17_look_23 : decode cX17_look 23 = .ok (.iconst 3, 1) := by decide +kernel
theorem dr_cX17_look_24 : decode cX17_look 24 = .ok (.if_icmp .le 9, 3) := by decide +kernel
theorem dr_cX17_look_33 : decode cX17_look 33 = .ok (.iload_n 2, 1) := by decide +kernel
theorem dr_cX17_look_34 : decode cX17_look 34 = .ok (.iconst 1, 1) := by decide +kernel
theorem dr_cX17_look_35 : decode cX17_look 35 = .ok (.if_icmp .le 65, 3) := by decide +kernel
theorem dr_cX17_look_100 : decode cX17_look 100 = .ok (.aload_n 0, 1) := by decide +kernel
theorem dr_cX17_look_101 : decode cX17_look 101 = .ok (.aload_n 0, 1) := by decide +kernel
theorem dr_cX17_look_102 : decode cX17_look 102 = .ok (.getfield 361, 3) := by decide +kernel
theorem dr_cX17_look_105 : decode cX17_look 105 = .ok (.iconst 0, 1) := by decide +kernel
theorem dr_cX17_look_106 : decode cX17_look 106 = .ok (.invokevirtual 243, 3) := by decide +kernel
theorem dr_cX17_look_109 : decode cX17_look 109 = .ok (.iload_n 1, 1) := by decide +kernel
theorem dr_cX17_look_110 : decode cX17_look 110 = .ok (.ifCond .lt 19, 3) := by decide +kernel
theorem dr_cX17_look_129 : decode cX17_look 129 = .ok (.aload_n 0, 1) := by decide +kernel
theorem dr_cX17_look_130 : decode cX17_look 130 = .ok (.iconst 3, 1) := by decide +kernel
theorem dr_cX17_look_131 : decode cX17_look 131 = .ok (.invokevirtual 385, 3) := by decide +kernel
theorem dr_cX17_look_134 : decode cX17_look 134 = .ok (.ireturn, 1) := by decide +kernel
theorem dr_cX17_look_113 : decode cX17_look 113 = .ok (.iload_n 1, 1) := by decide +kernel
theorem dr_cX17_look_114 : decode cX17_look 114 = .ok (.sipush 2000, 3) := by decide +kernel
theorem dr_cX17_look_117 : decode cX17_look 117 = .ok (.if_icmp .ge 12, 3) := by decide +kernel
theorem dr_cX17_look_120 : decode cX17_look 120 = .ok (.aload_n 0, 1) := by decide +kernel
theorem dr_cX17_look_121 : decode cX17_look 121 = .ok (.getfield 131, 3) := by decide +kernel
theorem dr_cX17_look_124 : decode cX17_look 124 = .ok (.iload_n 1, 1) := by decide +kernel
theorem dr_cX17_look_125 : decode cX17_look 125 = .ok (.baload, 1) := by decide +kernel
theorem dr_cX17_look_126 : decode cX17_look 126 = .ok (.ifCond .ne 9, 3) := by decide +kernel
theorem dr_cX17_look_135 : decode cX17_look 135 = .ok (.aload_n 0, 1) := by decide +kernel
theorem dr_cX17_look_136 : decode cX17_look 136 = .ok (.getfield 368, 3) := by decide +kernel
theorem wr_7_82 : (Jvm.Cond.fieldLink "SpillForgeModel" (368 : Nat) "SpillForgeModel" "spare" "LSpillForgeModel$Code;") ∈ gw := gw_7 82 rfl rfl
theorem dr_cX17_look_139 : decode cX17_look 139 = .ok (.aload_n 0, 1) := by decide +kernel
theorem dr_cX17_look_140 : decode cX17_look 140 = .ok (.getfield 361, 3) := by decide +kernel
theorem dr_cX17_look_143 : decode cX17_look 143 = .ok (.invokevirtual 419, 3) := by decide +kernel
theorem wr_10_128 : (Jvm.Cond.methodLink "SpillForgeModel" (419 : Nat) ({ cls := "SpillForgeModel$Code", name := "copy", desc := "(LSpillForgeModel$Code;)V" } : Jvm.MethodName)) ∈ gw := gw_10 128 rfl rfl
theorem wr_10_131 : (Jvm.Cond.code ({ cls := "SpillForgeModel$Code", name := "copy", desc := "(LSpillForgeModel$Code;)V" } : Jvm.MethodName) prog_16_method_9_code (7 : Nat) (Option.none : Option Jvm.ClassFile.FieldType)) ∈ gw := gw_10 131 rfl rfl
theorem wr_10_129 : (Jvm.Cond.instanceMethod ({ cls := "SpillForgeModel$Code", name := "copy", desc := "(LSpillForgeModel$Code;)V" } : Jvm.MethodName)) ∈ gw := gw_10 129 rfl rfl
theorem wr_10_130 : (Jvm.Cond.selects "SpillForgeModel$Code" ({ cls := "SpillForgeModel$Code", name := "copy", desc := "(LSpillForgeModel$Code;)V" } : Jvm.MethodName) ({ cls := "SpillForgeModel$Code", name := "copy", desc := "(LSpillForgeModel$Code;)V" } : Jvm.MethodName)) ∈ gw := gw_10 130 rfl rfl
theorem dr_cX17_look_146 : decode cX17_look 146 = .ok (.aload_n 0, 1) := by decide +kernel
theorem dr_cX17_look_147 : decode cX17_look 147 = .ok (.aload_n 0, 1) := by decide +kernel
theorem dr_cX17_look_148 : decode cX17_look 148 = .ok (.getfield 368, 3) := by decide +kernel
theorem dr_cX17_look_151 : decode cX17_look 151 = .ok (.invokevirtual 240, 3) := by decide +kernel
theorem wr_10_148 : (Jvm.Cond.methodLink "SpillForgeModel" (240 : Nat) ({ cls := "SpillForgeModel", name := "zeros", desc := "(LSpillForgeModel$Code;)V" } : Jvm.MethodName)) ∈ gw := gw_10 148 rfl rfl
theorem wr_10_151 : (Jvm.Cond.code ({ cls := "SpillForgeModel", name := "zeros", desc := "(LSpillForgeModel$Code;)V" } : Jvm.MethodName) prog_14_method_16_code (5 : Nat) (Option.none : Option Jvm.ClassFile.FieldType)) ∈ gw := gw_10 151 rfl rfl
theorem wr_10_150 : (Jvm.Cond.instanceMethod ({ cls := "SpillForgeModel", name := "zeros", desc := "(LSpillForgeModel$Code;)V" } : Jvm.MethodName)) ∈ gw := gw_10 150 rfl rfl
theorem wr_p_93 : Cond.selects "SpillForgeModel" ⟨"SpillForgeModel", "zeros", "(LSpillForgeModel$Code;)V"⟩ ⟨"SpillForgeModel", "zeros", "(LSpillForgeModel$Code;)V"⟩ ∈ gw := gw_p _ 93 rfl rfl rfl
theorem dr_cX17_look_154 : decode cX17_look 154 = .ok (.aload_n 0, 1) := by decide +kernel
theorem dr_cX17_look_155 : decode cX17_look 155 = .ok (.aload_n 0, 1) := by decide +kernel
theorem dr_cX17_look_156 : decode cX17_look 156 = .ok (.getfield 368, 3) := by decide +kernel
theorem dr_cX17_look_159 : decode cX17_look 159 = .ok (.iconst 0, 1) := by decide +kernel
theorem dr_cX17_look_160 : decode cX17_look 160 = .ok (.invokevirtual 243, 3) := by decide +kernel
theorem dr_cX17_look_163 : decode cX17_look 163 = .ok (.aload_n 0, 1) := by decide +kernel
theorem dr_cX17_look_164 : decode cX17_look 164 = .ok (.aload_n 0, 1) := by decide +kernel
theorem dr_cX17_look_165 : decode cX17_look 165 = .ok (.getfield 368, 3) := by decide +kernel
theorem dr_cX17_look_168 : decode cX17_look 168 = .ok (.invokevirtual 250, 3) := by decide +kernel
theorem wr_11_29 : (Jvm.Cond.methodLink "SpillForgeModel" (250 : Nat) ({ cls := "SpillForgeModel", name := "weigh", desc := "(LSpillForgeModel$Code;)V" } : Jvm.MethodName)) ∈ gw := gw_11 29 rfl rfl
theorem wr_11_32 : (Jvm.Cond.code ({ cls := "SpillForgeModel", name := "weigh", desc := "(LSpillForgeModel$Code;)V" } : Jvm.MethodName) prog_14_method_15_code (7 : Nat) (Option.none : Option Jvm.ClassFile.FieldType)) ∈ gw := gw_11 32 rfl rfl
theorem wr_11_31 : (Jvm.Cond.instanceMethod ({ cls := "SpillForgeModel", name := "weigh", desc := "(LSpillForgeModel$Code;)V" } : Jvm.MethodName)) ∈ gw := gw_11 31 rfl rfl
theorem wr_p_104 : Cond.selects "SpillForgeModel" ⟨"SpillForgeModel", "weigh", "(LSpillForgeModel$Code;)V"⟩ ⟨"SpillForgeModel", "weigh", "(LSpillForgeModel$Code;)V"⟩ ∈ gw := gw_p _ 104 rfl rfl rfl
theorem dr_cX17_look_171 : decode cX17_look 171 = .ok (.iload_n 2, 1) := by decide +kernel
theorem dr_cX17_look_172 : decode cX17_look 172 = .ok (.ifCond .ne 12, 3) := by decide +kernel
theorem dr_cX17_look_184 : decode cX17_look 184 = .ok (.aload_n 0, 1) := by decide +kernel
theorem dr_cX17_look_185 : decode cX17_look 185 = .ok (.getfield 135, 3) := by decide +kernel
theorem dr_cX17_look_188 : decode cX17_look 188 = .ok (.iload_n 1, 1) := by decide +kernel
theorem dr_cX17_look_189 : decode cX17_look 189 = .ok (.aaload, 1) := by decide +kernel
theorem dr_cX17_look_190 : decode cX17_look 190 = .ok (.invokestatic 202, 3) := by decide +kernel
theorem dr_cX17_look_193 : decode cX17_look 193 = .ok (.ireturn, 1) := by decide +kernel
theorem dr_cX17_look_175 : decode cX17_look 175 = .ok (.aload_n 0, 1) := by decide +kernel
theorem dr_cX17_look_176 : decode cX17_look 176 = .ok (.getfield 174, 3) := by decide +kernel
theorem dr_cX17_look_179 : decode cX17_look 179 = .ok (.iload_n 1, 1) := by decide +kernel
theorem dr_cX17_look_180 : decode cX17_look 180 = .ok (.iaload, 1) := by decide +kernel
theorem dr_cX17_look_181 : decode cX17_look 181 = .ok (.goto 12, 3) := by decide +kernel
theorem dr_cX17_look_38 : decode cX17_look 38 = .ok (.iload_n 1, 1) := by decide +kernel
theorem dr_cX17_look_39 : decode cX17_look 39 = .ok (.ifCond .lt 14, 3) := by decide +kernel
theorem dr_cX17_look_53 : decode cX17_look 53 = .ok (.aload_n 0, 1) := by decide +kernel
theorem dr_cX17_look_54 : decode cX17_look 54 = .ok (.iconst 3, 1) := by decide +kernel
theorem dr_cX17_look_55 : decode cX17_look 55 = .ok (.invokevirtual 385, 3) := by decide +kernel
theorem dr_cX17_look_58 : decode cX17_look 58 = .ok (.ireturn, 1) := by decide +kernel
theorem dr_cX17_look_42 : decode cX17_look 42 = .ok (.iload_n 1, 1) := by decide +kernel
theorem dr_cX17_look_43 : decode cX17_look 43 = .ok (.aload_n 0, 1) := by decide +kernel
theorem dr_cX17_look_44 : decode cX17_look 44 = .ok (.getfield 361, 3) := by decide +kernel
theorem dr_cX17_look_47 : decode cX17_look 47 = .ok (.invokevirtual 96, 3) := by decide +kernel
theorem dr_cX17_look_50 : decode cX17_look 50 = .ok (.if_icmp .lt 9, 3) := by decide +kernel
theorem dr_cX17_look_59 : decode cX17_look 59 = .ok (.aload_n 0, 1) := by decide +kernel
theorem dr_cX17_look_60 : decode cX17_look 60 = .ok (.aload_n 0, 1) := by decide +kernel
theorem dr_cX17_look_61 : decode cX17_look 61 = .ok (.getfield 361, 3) := by decide +kernel
theorem dr_cX17_look_64 : decode cX17_look 64 = .ok (.iconst 0, 1) := by decide +kernel
theorem dr_cX17_look_65 : decode cX17_look 65 = .ok (.invokevirtual 127, 3) := by decide +kernel
theorem dr_cX17_look_68 : decode cX17_look 68 = .ok (.aload_n 0, 1) := by decide +kernel
theorem dr_cX17_look_69 : decode cX17_look 69 = .ok (.aload_n 0, 1) := by decide +kernel
theorem dr_cX17_look_70 : decode cX17_look 70 = .ok (.getfield 361, 3) := by decide +kernel
theorem dr_cX17_look_73 : decode cX17_look 73 = .ok (.invokevirtual 170, 3) := by decide +kernel
theorem dr_cX17_look_76 : decode cX17_look 76 = .ok (.iload_n 2, 1) := by decide +kernel
theorem dr_cX17_look_77 : decode cX17_look 77 = .ok (.iconst 2, 1) := by decide +kernel
theorem dr_cX17_look_78 : decode cX17_look 78 = .ok (.if_icmp .ne 15, 3) := by decide +kernel
theorem dr_cX17_look_93 : decode cX17_look 93 = .ok (.aload_n 0, 1) := by decide +kernel
theorem dr_cX17_look_94 : decode cX17_look 94 = .ok (.getfield 152, 3) := by decide +kernel
theorem dr_cX17_look_97 : decode cX17_look 97 = .ok (.iload_n 1, 1) := by decide +kernel
theorem dr_cX17_look_98 : decode cX17_look 98 = .ok (.iaload, 1) := by decide +kernel
theorem dr_cX17_look_99 : decode cX17_look 99 = .ok (.ireturn, 1) := by decide +kernel
theorem dr_cX17_look_81 : decode cX17_look 81 = .ok (.aload_n 0, 1) := by decide +kernel
theorem dr_cX17_look_82 : decode cX17_look 82 = .ok (.getfield 88, 3) := by decide +kernel
theorem dr_cX17_look_85 : decode cX17_look 85 = .ok (.iload_n 1, 1) := by decide +kernel
theorem dr_cX17_look_86 : decode cX17_look 86 = .ok (.aaload, 1) := by decide +kernel
theorem dr_cX17_look_87 : decode cX17_look 87 = .ok (.invokestatic 202, 3) := by decide +kernel
theorem dr_cX17_look_90 : decode cX17_look 90 = .ok (.goto 9, 3) := by decide +kernel
theorem dr_cX17_look_12 : decode cX17_look 12 = .ok (.aload_n 0, 1) := by decide +kernel
theorem dr_cX17_look_13 : decode cX17_look 13 = .ok (.iconst 1, 1) := by decide +kernel
theorem dr_cX17_look_14 : decode cX17_look 14 = .ok (.invokevirtual 385, 3) := by decide +kernel
theorem dr_cX17_look_17 : decode cX17_look 17 = .ok (.ireturn, 1) := by decide +kernel
abbrev ky_571455_SpillForgeModel_word : gKey := (cX17_word_, 5, "SpillForgeModel", (some FieldType.long), [], "word", fun _ _ => True)
def pt_571455_SpillForgeModel_word (D : va_G) (I : FieldType → ClassId) (γ el : Nat → Nat → Nat) (P571451 : List Nat) (F571452 : Nat → va_E) (q571453 : Nat) (p571454 : Int32) : Option Value → va_W → Nat → Nat → Prop := fun r w dc ds => ∃ (F571809 : Nat → va_E) (ol571808 : Int64), r = some (.long ol571808) ∧ w = va_pl P571451 F571809 ∧ RS D I P571451 F571809 γ el ∧ rStr γ [] F571452 F571809 ∧ dc ≤ 0 ∧ ds ≤ 0 ∧ (fI (F571809 q571453) 9).toInt = (fI (F571452 q571453) 9).toInt ∧ (fI (F571809 q571453) 10).toInt = (fI (F571452 q571453) 10).toInt ∧ (fI (F571809 q571453) 32).toInt = (fI (F571452 q571453) 32).toInt
set_option maxRecDepth 100000 in
set_option maxHeartbeats 4000000 in
theorem ct_571455_SpillForgeModel_word (l : Launch) (hl0 : l.stackTraces = false) (D : va_G) (I : FieldType → ClassId) (γ el : Nat → Nat → Nat) (P571451 : List Nat) (F571452 : Nat → va_E) (q571453 : Nat) (p571454 : Int32) (hT : RS D I P571451 F571452 γ el) (htq571453 : rKd γ q571453 10) : CtA (gV D I) l yX17_word_ cX17_word_ 5 (some FieldType.long) 1 21 0 0 [.ref q571453, .int p571454] (va_pl P571451 F571452) (pt_571455_SpillForgeModel_word D I γ el P571451 F571452 q571453 p571454) gNA := by
  refine CtA_of hl0 (by decide) (Nat.le_of_ble_eq_true rfl) ?_
  have bp571454 := gB_any p571454
  have hm571456 : q571453 ∈ P571451 := RS_m hT htq571453 (by decide)
  refine rk10_e (show rk_10 γ (F571452 q571453) from RS_o hT htq571453) (fun q571458 q571459 p571460 p571461 p571462 p571463 p571464 p571465 p571466 p571467 p571468 p571469 p571470 p571471 p571472 p571473 p571474 he571457 hB571501 ht571475 ht571476 ht571477 ht571478 ht571479 ht571480 ht571481 ht571482 ht571483 ht571484 ht571485 ht571486 ht571487 ht571488 ht571489 ht571490 ht571491 ht571492 ht571493 ht571494 ht571495 ht571496 ht571497 ht571498 hB571502 => ?_)
  have ac571503 : (fI (F571452 q571453) 9).toInt = p571460.toInt := by rw [he571457]; rfl
  have bp571460 : gB p571460 0 1 := (hB571501.1)
  have ac571504 : (fI (F571452 q571453) 10).toInt = p571461.toInt := by rw [he571457]; rfl
  have bp571461 : gB p571461 0 1 := (hB571501.2.1)
  have ac571505 : (fI (F571452 q571453) 32).toInt = p571472.toInt := by rw [he571457]; rfl
  have bp571472 : gB p571472 0 8192 := (hB571501.2.2.2.2.2.2.2.1)
  have fq571506 : γ 6 (γ 1 (γ 9 6)) = γ 6 0 := by rw [show γ 1 (γ 9 6) = 0 from ht571496]
  have fq571507 : γ 6 (γ 1 (γ 9 7)) = γ 6 1 := by rw [show γ 1 (γ 9 7) = 1 from ht571497]
  have fq571508 : γ 6 (γ 1 (γ 9 8)) = γ 6 2 := by rw [show γ 1 (γ 9 8) = 2 from ht571498]
  have r571509 : p571474.toInt ≤ γ 12 q571459 := by have z := hB571502; unfold rM2 at z; exact z.2.2
  refine G_aload_n 0 dr_cX17_word__0 rfl ?_
  refine G_iconst 0 dr_cX17_word__1 (by decide +kernel) ?_
  refine Gp_put 30 hm571456 he571457 dr_cX17_word__2 (gk_X17 D I) (Nat.le_of_ble_eq_true rfl) wr_7_104 rfl rfl rfl (Nat.le_of_ble_eq_true rfl) (fun F571510 e571511 n571512 => ?_)
  have he571513 : F571510 q571453 = .inr (22, [.ref (γ 9 0), .ref (γ 9 1), .ref (γ 9 2), .ref (γ 9 3), .ref (γ 9 4), .ref (γ 9 5), .ref (γ 9 6), .ref (γ 9 7), .ref (γ 9 8), .int p571460, .int p571461, .int p571462, .int p571463, .int p571464, .int p571465, .ref (γ 9 15), .ref (γ 9 16), .ref (γ 9 17), .ref (γ 9 18), .ref (γ 9 19), .ref (γ 9 20), .ref (γ 9 21), .ref (γ 9 22), .int p571466, .int p571467, .int p571468, .int p571469, .int p571470, .ref q571458, .ref (γ 9 29), .int 0, .ref (γ 9 31), .int p571472, .int p571473, .int p571474, .ref q571459]) := e571511
  have hs571514 : rStr γ [] F571452 F571510 := rStr_put (rStr_rf (γ := γ) (W := []) (F := F571452)) n571512 htq571453 (by decide)
  refine G_iload_n 1 dr_cX17_word__5 rfl ?_
  refine G_if_lt 17 dr_cX17_word__6 (by decide +kernel) (fun hc571515 => ?_) (fun hc571515 => ?_)
  · have r571516 : p571454.toInt < 0 := gj_lt hc571515 (show Int32.toInt 0 = 0 by decide)
    have bp571454' : gB p571454 (-2147483648) (-1) := ⟨by omega, by omega⟩
    refine G_aload_n 0 dr_cX17_word__17 rfl ?_
    refine G_iconst 1 dr_cX17_word__18 (by decide +kernel) ?_
    have hT571517 : RS D I P571451 F571510 γ el := RS_set hT n571512 htq571453 (by decide) ⟨q571458, q571459, p571460, p571461, p571462, p571463, p571464, p571465, p571466, p571467, p571468, p571469, p571470, 0, p571472, p571473, p571474, he571513, ⟨bp571460, bp571461, (hB571501.2.2.1), (hB571501.2.2.2.1), (hB571501.2.2.2.2.1), (hB571501.2.2.2.2.2.1), (hB571501.2.2.2.2.2.2.1), bp571472, (hB571501.2.2.2.2.2.2.2.2)⟩, ht571475, ht571476, ht571477, ht571478, ht571479, ht571480, ht571481, ht571482, ht571483, ht571484, ht571485, ht571486, ht571487, ht571488, ht571489, ht571490, ht571491, ht571492, ht571493, ht571494, ht571495, ht571496, ht571497, ht571498, hB571502⟩
    have ac571518 : (fI (F571510 q571453) 9).toInt = p571460.toInt := by rw [he571513]; rfl
    have ac571519 : (fI (F571510 q571453) 10).toInt = p571461.toInt := by rw [he571513]; rfl
    have ac571520 : (fI (F571510 q571453) 32).toInt = p571472.toInt := by rw [he571513]; rfl
    refine Gw_callV (As := [.int 1]) (gV_ok D I) (ct_563506_SpillForgeModel_no l hl0 D I γ el P571451 F571510 q571453 1 hT571517 htq571453) dr_cX17_word__19 ⟨wr_7_187, wr_1_14, wr_7_190, by decide, rfl, (Nat.le_of_ble_eq_true rfl), (Nat.le_of_ble_eq_true rfl)⟩ wr_7_189 wr_p_73 hm571456 he571513 rfl (show 0 + 0 ≤ 0 by first | omega | decide) (show 0 + 0 ≤ 0 by first | omega | decide) (Nat.le_of_ble_eq_true rfl) (fun r571524 w571525 dc571521 ds571522 hp571523 => ?_) (fun _ _ _ _ _ z => z.elim)
    obtain ⟨F571530, rfl, rfl, hT571531, hs571532, hdc, hds, x571526, x571527, x571528, x571529⟩ := hp571523
    have hs571533 : rStr γ [] F571452 F571530 := rStr_tr hs571514 hs571532
    rw [show Int32.toInt 1 = 1 from by decide] at x571529
    change G _ _ _ _ _ _ _ (.int 0 :: _) _ _ _
    refine G_widen (cs' := 0) (sl' := 0) (by omega) (by omega) ?_
    refine G_i2l dr_cX17_word__22 (G_namL fun u571534 hu571534 => ?_)
    have hm571535 : q571453 ∈ P571451 := RS_m hT571531 htq571453 (by decide)
    refine rk10_e (show rk_10 γ (F571530 q571453) from RS_o hT571531 htq571453) (fun q571537 q571538 p571539 p571540 p571541 p571542 p571543 p571544 p571545 p571546 p571547 p571548 p571549 p571550 p571551 p571552 p571553 he571536 hB571580 ht571554 ht571555 ht571556 ht571557 ht571558 ht571559 ht571560 ht571561 ht571562 ht571563 ht571564 ht571565 ht571566 ht571567 ht571568 ht571569 ht571570 ht571571 ht571572 ht571573 ht571574 ht571575 ht571576 ht571577 hB571581 => ?_)
    have ac571582 : (fI (F571530 q571453) 9).toInt = p571539.toInt := by rw [he571536]; rfl
    have bp571539 : gB p571539 0 1 := (hB571580.1)
    have ac571583 : (fI (F571530 q571453) 10).toInt = p571540.toInt := by rw [he571536]; rfl
    have bp571540 : gB p571540 0 1 := (hB571580.2.1)
    have ac571584 : (fI (F571530 q571453) 32).toInt = p571551.toInt := by rw [he571536]; rfl
    have bp571551 : gB p571551 0 8192 := (hB571580.2.2.2.2.2.2.2.1)
    have ac571585 : (fI (F571530 q571453) 9).toInt = p571539.toInt := by rw [he571536]; rfl
    have ac571586 : (fI (F571530 q571453) 10).toInt = p571540.toInt := by rw [he571536]; rfl
    have ac571587 : (fI (F571530 q571453) 32).toInt = p571551.toInt := by rw [he571536]; rfl
    exact G_lretA dr_cX17_word__23 rfl (Nat.le_of_ble_eq_true rfl) (Nat.le_of_ble_eq_true rfl) ⟨F571530, u571534, rfl, rfl, hT571531, hs571533, (Nat.le_of_ble_eq_true rfl), (Nat.le_of_ble_eq_true rfl), (by omega), (by omega), (by omega)⟩
  · have r571588 : 0 ≤ p571454.toInt := gj_nlt hc571515 (show Int32.toInt 0 = 0 by decide)
    have bp571454' : gB p571454 0 2147483647 := ⟨by omega, by omega⟩
    refine G_iload_n 1 dr_cX17_word__9 rfl ?_
    refine G_aload_n 0 dr_cX17_word__10 rfl ?_
    refine Gp_get 34 hm571456 he571513 dr_cX17_word__11 (gk_X17 D I) (Nat.le_of_ble_eq_true rfl) wr_7_108 rfl ?_
    have bp571474 : gB p571474 0 16777216 := (hB571501.2.2.2.2.2.2.2.2)
    refine G_icmp_lt 24 dr_cX17_word__14 (by decide +kernel) (fun hc571589 => ?_) (fun hc571589 => ?_)
    · have r571590 : p571454.toInt < p571474.toInt := gC_lt hc571589
      have bp571454'' : gB p571454 0 16777215 := ⟨by omega, by omega⟩
      have bp571474' : gB p571474 1 16777216 := ⟨by omega, by omega⟩
      refine G_lconst 0 dr_cX17_word__24 rfl ?_
      refine G_lstore_n (L' := [(2, .long 0), (0, .ref q571453), (1, .int p571454)]) dr_cX17_word__25 (Nat.le_of_ble_eq_true rfl) rfl ?_
      refine G_iconst 0 dr_cX17_word__26 (by decide +kernel) ?_
      refine G_istore (L' := [(4, .int 0), (2, .long 0), (0, .ref q571453), (1, .int p571454)]) dr_cX17_word__27 (Nat.le_of_ble_eq_true rfl) rfl ?_
      have hT571591 : RS D I P571451 F571510 γ el := RS_set hT n571512 htq571453 (by decide) ⟨q571458, q571459, p571460, p571461, p571462, p571463, p571464, p571465, p571466, p571467, p571468, p571469, p571470, 0, p571472, p571473, p571474, he571513, ⟨bp571460, bp571461, (hB571501.2.2.1), (hB571501.2.2.2.1), (hB571501.2.2.2.2.1), (hB571501.2.2.2.2.2.1), (hB571501.2.2.2.2.2.2.1), bp571472, (gB_w bp571474' (by decide) (by decide))⟩, ht571475, ht571476, ht571477, ht571478, ht571479, ht571480, ht571481, ht571482, ht571483, ht571484, ht571485, ht571486, ht571487, ht571488, ht571489, ht571490, ht571491, ht571492, ht571493, ht571494, ht571495, ht571496, ht571497, ht571498, hB571502⟩
      have hlp29_571701 : ∀ (n29_571701 : Nat) (g571700 : Int32) (gl571701 : Int64), gB g571700 0 8 → ((9 : Int) - g571700.toInt).toNat < n29_571701 → G (gV D I) l (gRm 1 21 0 0) (gMA (gV D I) (pt_571455_SpillForgeModel_word D I γ el P571451 F571452 q571453 p571454) gNA 0 0) ky_571455_SpillForgeModel_word 29 [(4, .int g571700), (2, .long gl571701), (0, .ref q571453), (1, .int p571454)] [] (va_pl P571451 F571510) 0 0 := by
        intro n29_571701
        induction n29_571701 with
        | zero => intro g571700 gl571701 bg571700 hm29_571701; exact absurd hm29_571701 (Nat.not_lt_zero _)
        | succ n29_571701 ih29_571701 =>
          intro g571700 gl571701 bg571700 hm29_571701
          refine G_iload 0 dr_cX17_word__29 rfl ?_
          refine G_bipush 8 dr_cX17_word__31 (by decide +kernel) ?_
          refine G_icmp_ge 77 dr_cX17_word__33 (by decide +kernel) (fun hc571703 => ?_) (fun hc571703 => ?_)
          · have r571704 : 8 ≤ g571700.toInt := gj_leL hc571703 (show Int32.toInt 8 = 8 by decide)
            have bg571700' : gB g571700 8 8 := ⟨by omega, by omega⟩
            refine G_lload_n 1 dr_cX17_word__77 rfl ?_
            have ac571705 : (fI (F571510 q571453) 9).toInt = p571460.toInt := by rw [he571513]; rfl
            have ac571706 : (fI (F571510 q571453) 10).toInt = p571461.toInt := by rw [he571513]; rfl
            have ac571707 : (fI (F571510 q571453) 32).toInt = p571472.toInt := by rw [he571513]; rfl
            exact G_lretA dr_cX17_word__78 rfl (Nat.le_of_ble_eq_true rfl) (Nat.le_of_ble_eq_true rfl) ⟨F571510, gl571701, rfl, rfl, hT571591, hs571514, (Nat.le_of_ble_eq_true rfl), (Nat.le_of_ble_eq_true rfl), (by omega), (by omega), (by omega)⟩
          · have r571708 : g571700.toInt < 8 := gj_nleL hc571703 (show Int32.toInt 8 = 8 by decide)
            have bg571700' : gB g571700 0 7 := ⟨by omega, by omega⟩
            refine G_lload_n 1 dr_cX17_word__36 rfl ?_
            refine G_bipush 8 dr_cX17_word__37 (by decide +kernel) ?_
            refine G_lshl dr_cX17_word__39 (G_namL fun u571709 hu571709 => ?_)
            refine G_iload_n 3 dr_cX17_word__40 rfl ?_
            refine G_iload 0 dr_cX17_word__41 rfl ?_
            refine G_iadd dr_cX17_word__43 (G_nam fun z571710 hz571710 => ?_)
            have ez571710 : z571710.toInt = p571454.toInt + g571700.toInt := by rw [gI_add hz571710 bp571454'' bg571700' (by decide) (by decide)]
            have bz571710 : gB z571710 0 16777222 := gB_add (gI_add hz571710 bp571454'' bg571700' (by decide) (by decide)) bp571454'' bg571700' (by decide) (by decide)
            refine G_aload_n 2 dr_cX17_word__44 rfl ?_
            refine Gp_get 34 hm571456 he571513 dr_cX17_word__45 (gk_X17 D I) (Nat.le_of_ble_eq_true rfl) wr_7_108 rfl ?_
            refine G_icmp_ge 67 dr_cX17_word__48 (by decide +kernel) (fun hc571711 => ?_) (fun hc571711 => ?_)
            · have r571712 : p571474.toInt ≤ z571710.toInt := gC_le hc571711
              have bz571710' : gB z571710 1 16777222 := ⟨by omega, by omega⟩
              refine G_iconst 0 dr_cX17_word__67 (by decide +kernel) ?_
              refine G_i2l dr_cX17_word__68 (G_namL fun u571713 hu571713 => ?_)
              refine G_lor dr_cX17_word__69 (G_namL fun u571714 hu571714 => ?_)
              refine G_lstore_n (L' := [(2, .long u571714), (4, .int g571700), (0, .ref q571453), (1, .int p571454)]) dr_cX17_word__70 (Nat.le_of_ble_eq_true rfl) rfl ?_
              obtain ⟨z571715, hz571715⟩ : ∃ z : Int32, z = g571700 + Int32.ofInt 1 := ⟨_, rfl⟩
              have ez571715 : z571715.toInt = g571700.toInt + 1 := gI_inc hz571715 (by decide) bg571700' (by decide) (by decide)
              have bz571715 : gB z571715 1 8 := ⟨by omega, by omega⟩
              refine G_iinc (L' := [(4, .int z571715), (2, .long u571714), (0, .ref q571453), (1, .int p571454)]) z571715 1 dr_cX17_word__71 rfl hz571715.symm (Nat.le_of_ble_eq_true rfl) rfl ?_
              refine G_goto 29 dr_cX17_word__74 (by decide +kernel) ?_
              have ac571716 : (fI (F571510 q571453) 9).toInt = p571460.toInt := by rw [he571513]; rfl
              have ac571717 : (fI (F571510 q571453) 10).toInt = p571461.toInt := by rw [he571513]; rfl
              have ac571718 : (fI (F571510 q571453) 32).toInt = p571472.toInt := by rw [he571513]; rfl
              exact ih29_571701 z571715 u571714 (gB_w bz571715 (by decide) (by decide)) (mz_up ez571715 (Int.le_trans bg571700'.2 (by decide)) hm29_571701)
            · have r571719 : z571710.toInt < p571474.toInt := gC_nle hc571711
              have bz571710' : gB z571710 0 16777215 := ⟨by omega, by omega⟩
              refine G_aload_n 2 dr_cX17_word__51 rfl ?_
              refine Gp_get 35 hm571456 he571513 dr_cX17_word__52 (gk_X17 D I) (Nat.le_of_ble_eq_true rfl) wr_7_109 rfl ?_
              refine G_iload_n 3 dr_cX17_word__55 rfl ?_
              refine G_iload 0 dr_cX17_word__56 rfl ?_
              refine G_iadd dr_cX17_word__58 (G_nam fun z571720 hz571720 => ?_)
              have ez571720 : z571720.toInt = p571454.toInt + g571700.toInt := by rw [gI_add hz571720 bp571454'' bg571700' (by decide) (by decide)]
              have bz571720 : gB z571720 0 16777222 := gB_add (gI_add hz571720 bp571454'' bg571700' (by decide) (by decide)) bp571454'' bg571700' (by decide) (by decide)
              have hm571721 : q571459 ∈ P571451 := RS_m hT571591 ht571476 (by decide)
              obtain ⟨n571724, f571723, he571722, bf571723, hn571724, gn571724⟩ := show rk_27 I γ q571459 (F571510 q571459) from RS_o hT571591 ht571476
              refine Gp_bald 1 hm571721 he571722 dr_cX17_word__59 rfl (gB_inr (by omega) (by omega)) (G_nam fun z571725 hz571725 => ?_)
              have bz571725 : gB z571725 (-128) 127 := by rw [hz571725]; exact bf571723 _
              refine G_sipush 255 dr_cX17_word__60 (by decide +kernel) ?_
              refine G_iand dr_cX17_word__63 (G_nam fun z571726 hz571726 => ?_)
              have bz571726 : gB z571726 0 255 := gB_and hz571726 (gBl (show Int32.toInt 255 = 255 by decide)) (by decide)
              refine G_goto 68 dr_cX17_word__64 (by decide +kernel) ?_
              refine G_i2l dr_cX17_word__68 (G_namL fun u571727 hu571727 => ?_)
              refine G_lor dr_cX17_word__69 (G_namL fun u571728 hu571728 => ?_)
              refine G_lstore_n (L' := [(2, .long u571728), (4, .int g571700), (0, .ref q571453), (1, .int p571454)]) dr_cX17_word__70 (Nat.le_of_ble_eq_true rfl) rfl ?_
              obtain ⟨z571729, hz571729⟩ : ∃ z : Int32, z = g571700 + Int32.ofInt 1 := ⟨_, rfl⟩
              have ez571729 : z571729.toInt = g571700.toInt + 1 := gI_inc hz571729 (by decide) bg571700' (by decide) (by decide)
              have bz571729 : gB z571729 1 8 := ⟨by omega, by omega⟩
              refine G_iinc (L' := [(4, .int z571729), (2, .long u571728), (0, .ref q571453), (1, .int p571454)]) z571729 1 dr_cX17_word__71 rfl hz571729.symm (Nat.le_of_ble_eq_true rfl) rfl ?_
              refine G_goto 29 dr_cX17_word__74 (by decide +kernel) ?_
              have ac571730 : (fI (F571510 q571453) 9).toInt = p571460.toInt := by rw [he571513]; rfl
              have ac571731 : (fI (F571510 q571453) 10).toInt = p571461.toInt := by rw [he571513]; rfl
              have ac571732 : (fI (F571510 q571453) 32).toInt = p571472.toInt := by rw [he571513]; rfl
              exact ih29_571701 z571729 u571728 (gB_w bz571729 (by decide) (by decide)) (mz_up ez571729 (Int.le_trans bg571700'.2 (by decide)) hm29_571701)
      have ac571733 : (fI (F571510 q571453) 9).toInt = p571460.toInt := by rw [he571513]; rfl
      have ac571734 : (fI (F571510 q571453) 10).toInt = p571461.toInt := by rw [he571513]; rfl
      have ac571735 : (fI (F571510 q571453) 32).toInt = p571472.toInt := by rw [he571513]; rfl
      exact hlp29_571701 (((9 : Int) - 0).toNat + 1) 0 0 (gB_w (gBl (show Int32.toInt 0 = 0 by decide)) (by decide) (by decide)) (Nat.lt_succ_self _)
    · have r571736 : p571474.toInt ≤ p571454.toInt := gC_nlt hc571589
      refine G_aload_n 0 dr_cX17_word__17 rfl ?_
      refine G_iconst 1 dr_cX17_word__18 (by decide +kernel) ?_
      have hT571737 : RS D I P571451 F571510 γ el := RS_set hT n571512 htq571453 (by decide) ⟨q571458, q571459, p571460, p571461, p571462, p571463, p571464, p571465, p571466, p571467, p571468, p571469, p571470, 0, p571472, p571473, p571474, he571513, ⟨bp571460, bp571461, (hB571501.2.2.1), (hB571501.2.2.2.1), (hB571501.2.2.2.2.1), (hB571501.2.2.2.2.2.1), (hB571501.2.2.2.2.2.2.1), bp571472, bp571474⟩, ht571475, ht571476, ht571477, ht571478, ht571479, ht571480, ht571481, ht571482, ht571483, ht571484, ht571485, ht571486, ht571487, ht571488, ht571489, ht571490, ht571491, ht571492, ht571493, ht571494, ht571495, ht571496, ht571497, ht571498, hB571502⟩
      have ac571738 : (fI (F571510 q571453) 9).toInt = p571460.toInt := by rw [he571513]; rfl
      have ac571739 : (fI (F571510 q571453) 10).toInt = p571461.toInt := by rw [he571513]; rfl
      have ac571740 : (fI (F571510 q571453) 32).toInt = p571472.toInt := by rw [he571513]; rfl
      refine Gw_callV (As := [.int 1]) (gV_ok D I) (ct_563506_SpillForgeModel_no l hl0 D I γ el P571451 F571510 q571453 1 hT571737 htq571453) dr_cX17_word__19 ⟨wr_7_187, wr_1_14, wr_7_190, by decide, rfl, (Nat.le_of_ble_eq_true rfl), (Nat.le_of_ble_eq_true rfl)⟩ wr_7_189 wr_p_73 hm571456 he571513 rfl (show 0 + 0 ≤ 0 by first | omega | decide) (show 0 + 0 ≤ 0 by first | omega | decide) (Nat.le_of_ble_eq_true rfl) (fun r571744 w571745 dc571741 ds571742 hp571743 => ?_) (fun _ _ _ _ _ z => z.elim)
      obtain ⟨F571750, rfl, rfl, hT571751, hs571752, hdc, hds, x571746, x571747, x571748, x571749⟩ := hp571743
      have hs571753 : rStr γ [] F571452 F571750 := rStr_tr hs571514 hs571752
      rw [show Int32.toInt 1 = 1 from by decide] at x571749
      change G _ _ _ _ _ _ _ (.int 0 :: _) _ _ _
      refine G_widen (cs' := 0) (sl' := 0) (by omega) (by omega) ?_
      refine G_i2l dr_cX17_word__22 (G_namL fun u571754 hu571754 => ?_)
      have hm571755 : q571453 ∈ P571451 := RS_m hT571751 htq571453 (by decide)
      refine rk10_e (show rk_10 γ (F571750 q571453) from RS_o hT571751 htq571453) (fun q571757 q571758 p571759 p571760 p571761 p571762 p571763 p571764 p571765 p571766 p571767 p571768 p571769 p571770 p571771 p571772 p571773 he571756 hB571800 ht571774 ht571775 ht571776 ht571777 ht571778 ht571779 ht571780 ht571781 ht571782 ht571783 ht571784 ht571785 ht571786 ht571787 ht571788 ht571789 ht571790 ht571791 ht571792 ht571793 ht571794 ht571795 ht571796 ht571797 hB571801 => ?_)
      have ac571802 : (fI (F571750 q571453) 9).toInt = p571759.toInt := by rw [he571756]; rfl
      have bp571759 : gB p571759 0 1 := (hB571800.1)
      have ac571803 : (fI (F571750 q571453) 10).toInt = p571760.toInt := by rw [he571756]; rfl
      have bp571760 : gB p571760 0 1 := (hB571800.2.1)
      have ac571804 : (fI (F571750 q571453) 32).toInt = p571771.toInt := by rw [he571756]; rfl
      have bp571771 : gB p571771 0 8192 := (hB571800.2.2.2.2.2.2.2.1)
      have ac571805 : (fI (F571750 q571453) 9).toInt = p571759.toInt := by rw [he571756]; rfl
      have ac571806 : (fI (F571750 q571453) 10).toInt = p571760.toInt := by rw [he571756]; rfl
      have ac571807 : (fI (F571750 q571453) 32).toInt = p571771.toInt := by rw [he571756]; rfl
      exact G_lretA dr_cX17_word__23 rfl (Nat.le_of_ble_eq_true rfl) (Nat.le_of_ble_eq_true rfl) ⟨F571750, u571754, rfl, rfl, hT571751, hs571753, (Nat.le_of_ble_eq_true rfl), (Nat.le_of_ble_eq_true rfl), (by omega), (by omega), (by omega)⟩
abbrev ky_571896_SpillForgeModel_no : gKey := (cX17_no, 2, "SpillForgeModel", (some FieldType.int), [], "no", fun _ _ => True)
def pt_571896_SpillForgeModel_no (D : va_G) (I : FieldType → ClassId) (γ el : Nat → Nat → Nat) (P571892 : List Nat) (F571893 : Nat → va_E) (q571894 : Nat) (p571895 : Int32) : Option Value → va_W → Nat → Nat → Prop := fun r w dc ds => ∃ (F571953 : Nat → va_E), r = some (.int 0) ∧ w = va_pl P571892 F571953 ∧ RS D I P571892 F571953 γ el ∧ rStr γ [] F571893 F571953 ∧ dc ≤ 0 ∧ ds ≤ 0 ∧ (fI (F571953 q571894) 10).toInt = (fI (F571893 q571894) 10).toInt ∧ mKp (F571893 q571894) (F571953 q571894)
set_option maxRecDepth 100000 in
set_option maxHeartbeats 4000000 in
theorem ct_571896_SpillForgeModel_no (l : Launch) (hl0 : l.stackTraces = false) (D : va_G) (I : FieldType → ClassId) (γ el : Nat → Nat → Nat) (P571892 : List Nat) (F571893 : Nat → va_E) (q571894 : Nat) (p571895 : Int32) (hT : RS D I P571892 F571893 γ el) (htq571894 : rKd γ q571894 10) : CtA (gV D I) l yX17_no cX17_no 2 (some FieldType.int) 0 0 0 0 [.ref q571894, .int p571895] (va_pl P571892 F571893) (pt_571896_SpillForgeModel_no D I γ el P571892 F571893 q571894 p571895) gNA := by
  refine CtA_of hl0 (by decide) (Nat.le_of_ble_eq_true rfl) ?_
  have bp571895 := gB_any p571895
  have hm571897 : q571894 ∈ P571892 := RS_m hT htq571894 (by decide)
  refine rk10_e (show rk_10 γ (F571893 q571894) from RS_o hT htq571894) (fun q571899 q571900 p571901 p571902 p571903 p571904 p571905 p571906 p571907 p571908 p571909 p571910 p571911 p571912 p571913 p571914 p571915 he571898 hB571942 ht571916 ht571917 ht571918 ht571919 ht571920 ht571921 ht571922 ht571923 ht571924 ht571925 ht571926 ht571927 ht571928 ht571929 ht571930 ht571931 ht571932 ht571933 ht571934 ht571935 ht571936 ht571937 ht571938 ht571939 hB571943 => ?_)
  have ac571944 : (fI (F571893 q571894) 10).toInt = p571902.toInt := by rw [he571898]; rfl
  have bp571902 : gB p571902 0 1 := (hB571942.2.1)
  refine G_aload_n 0 dr_cX17_no_0 rfl ?_
  refine G_iload_n 1 dr_cX17_no_1 rfl ?_
  refine Gp_put 30 hm571897 he571898 dr_cX17_no_2 (gk_X17 D I) (Nat.le_of_ble_eq_true rfl) wr_7_104 rfl rfl rfl (Nat.le_of_ble_eq_true rfl) (fun F571945 e571946 n571947 => ?_)
  have he571948 : F571945 q571894 = .inr (22, [.ref (γ 9 0), .ref (γ 9 1), .ref (γ 9 2), .ref (γ 9 3), .ref (γ 9 4), .ref (γ 9 5), .ref (γ 9 6), .ref (γ 9 7), .ref (γ 9 8), .int p571901, .int p571902, .int p571903, .int p571904, .int p571905, .int p571906, .ref (γ 9 15), .ref (γ 9 16), .ref (γ 9 17), .ref (γ 9 18), .ref (γ 9 19), .ref (γ 9 20), .ref (γ 9 21), .ref (γ 9 22), .int p571907, .int p571908, .int p571909, .int p571910, .int p571911, .ref q571899, .ref (γ 9 29), .int p571895, .ref (γ 9 31), .int p571913, .int p571914, .int p571915, .ref q571900]) := e571946
  have mk571949 : mKp (F571893 q571894) (F571945 q571894) := mKp_tr mKp_rf (by rw [he571898, he571948]; exact ⟨rfl, rfl⟩)
  have hs571950 : rStr γ [] F571893 F571945 := rStr_put (rStr_rf (γ := γ) (W := []) (F := F571893)) n571947 htq571894 (by decide)
  refine G_iconst 0 dr_cX17_no_5 (by decide +kernel) ?_
  have hT571951 : RS D I P571892 F571945 γ el := RS_set hT n571947 htq571894 (by decide) ⟨q571899, q571900, p571901, p571902, p571903, p571904, p571905, p571906, p571907, p571908, p571909, p571910, p571911, p571895, p571913, p571914, p571915, he571948, ⟨(hB571942.1), bp571902, (hB571942.2.2.1), (hB571942.2.2.2.1), (hB571942.2.2.2.2.1), (hB571942.2.2.2.2.2.1), (hB571942.2.2.2.2.2.2.1), (hB571942.2.2.2.2.2.2.2.1), (hB571942.2.2.2.2.2.2.2.2)⟩, ht571916, ht571917, ht571918, ht571919, ht571920, ht571921, ht571922, ht571923, ht571924, ht571925, ht571926, ht571927, ht571928, ht571929, ht571930, ht571931, ht571932, ht571933, ht571934, ht571935, ht571936, ht571937, ht571938, ht571939, hB571943⟩
  have ac571952 : (fI (F571945 q571894) 10).toInt = p571902.toInt := by rw [he571948]; rfl
  exact G_iretA dr_cX17_no_6 rfl (Nat.le_of_ble_eq_true rfl) (Nat.le_of_ble_eq_true rfl) ⟨F571945, rfl, rfl, hT571951, hs571950, (Nat.le_of_ble_eq_true rfl), (Nat.le_of_ble_eq_true rfl), (by have qa0 : Int32.toInt 0 = 0 := (by decide); omega), mk571949⟩
abbrev ky_571822_SpillForgeModel_look : gKey := (cX17_look, 3, "SpillForgeModel", (some FieldType.int), [], "look", fun _ _ => True)
def pg_571822_SpillForgeModel_look (D : va_G) (I : FieldType → ClassId) (γ0 el0 : Nat → Nat → Nat) (f : Nat) (fo : Nat) (B : Nat) (P571810 : List Nat) (F571811 : Nat → va_E) (q571812 : Nat) (p571813 : Int32) (p571814 : Int32) (q571815 : Nat) (q571816 : Nat) : Option Value → va_W → Nat → Nat → Prop := fun r w dc ds => ∃ (P572428 : List Nat) (F572429 : Nat → va_E) (γ el : Nat → Nat → Nat) (o572427 : Int32), r = some (.int o572427) ∧ w = va_pl P572428 F572429 ∧ rSk f [1, 2, 3, 101, 102, 103, 202] ([1, 2, 3, 4, 5, 6, 7, 8, 9, 101, 102, 103, 202] ++ npk) D I P571810 F571811 γ0 el0 P572428 F572429 γ el ∧ (18 * dc + rPh γ0 el0 f ≤ rPh γ el f ∧ ds + rPh γ0 el0 f ≤ rPh γ el f) ∧ rBd γ el f B ∧ (fI (F572429 q571812) 10).toInt = (fI (F571811 q571812) 10).toInt ∧ mKp (F571811 q571812) (F572429 q571812)
set_option maxRecDepth 100000 in
set_option maxHeartbeats 20000000 in
theorem cg_571822_SpillForgeModel_look (l : Launch) (hl0 : l.stackTraces = false) (D : va_G) (I : FieldType → ClassId) (γ0 el0 : Nat → Nat → Nat) (f : Nat) (fo : Nat) (B : Nat) (P571810 : List Nat) (F571811 : Nat → va_E) (q571812 : Nat) (p571813 : Int32) (p571814 : Int32) (q571815 : Nat) (q571816 : Nat) (hT0 : RS D I P571810 F571811 γ0 el0) (hzq571812 : rKd γ0 q571812 10) (hzq571815 : rKd γ0 q571815 9) (hzq571816 : rKd γ0 q571816 9) (hvq571815 : γ0 9 8 = q571815) (hvq571816 : γ0 9 6 = q571816) (hf0 : γ0 1 q571815 = f) (hfo0 : γ0 1 q571816 = fo) (hne : fo ≠ f) (hB0 : rBd γ0 el0 f B) (hBk : B ≤ 100000) (x571817 : f = 2) (x571818 : fo = 0) (x571819 : ((fI (F571811 q571812) 9).toInt = 0 ∨ (0 < γ0 6 fo ∧ γ0 16 fo ≤ 160))) (x571820 : γ0 7 fo = 0) (x571821 : 2160 ≤ B) : CtA (gV D I) l yX17_look cX17_look 3 (some FieldType.int) 9 196 (((387 * B + 6000) - rPh γ0 el0 f) / 18) ((387 * B + 6000) - rPh γ0 el0 f) [.ref q571812, .int p571813, .int p571814] (va_pl P571810 F571811) (pg_571822_SpillForgeModel_look D I γ0 el0 f fo B P571810 F571811 q571812 p571813 p571814 q571815 q571816) gNA := by
  refine CtA_of hl0 (by decide) (Nat.le_of_ble_eq_true rfl) ?_
  have bp571813 := gB_any p571813
  have bp571814 := gB_any p571814
  obtain ⟨γ, hγ0⟩ : ∃ z, z = γ0 := ⟨_, rfl⟩
  obtain ⟨el, hel0⟩ : ∃ z, z = el0 := ⟨_, rfl⟩
  have hT : RS D I P571810 F571811 γ el := by rw [hγ0, hel0]; exact hT0
  have hst : rSk f [1, 2, 3, 101, 102, 103, 202] ([1, 2, 3, 4, 5, 6, 7, 8, 9, 101, 102, 103, 202] ++ npk) D I P571810 F571811 γ0 el0 P571810 F571811 γ el := by rw [hγ0, hel0]; exact rSk_rf hT0
  have hph : rPh γ0 el0 f ≤ rPh γ el f := by rw [hγ0, hel0]; exact Nat.le_refl _
  have hB : rBd γ el f B := by rw [hγ0, hel0]; exact hB0
  have htq571812 : rKd γ q571812 10 := by rw [hγ0]; exact hzq571812
  have htq571815 : rKd γ q571815 9 := by rw [hγ0]; exact hzq571815
  have htq571816 : rKd γ q571816 9 := by rw [hγ0]; exact hzq571816
  have hf1 : γ 1 q571815 = f := by rw [hγ0]; exact hf0
  have hfo1 : γ 1 q571816 = fo := by rw [hγ0]; exact hfo0
  have x571819n : ((fI (F571811 q571812) 9).toInt = 0 ∨ (0 < γ 6 fo ∧ γ 16 fo ≤ 160)) := by rw [hγ0]; exact x571819
  have x571820n : γ 7 fo = 0 := by rw [hγ0]; exact x571820
  have pk571823 : rPh γ el f ≤ 387 * B + 6000 := rm_pk (rM_ge hT htq571815 hf1).1 (rM_bd hB)
  refine G_widen (cs' := ((rPh γ el f - rPh γ0 el0 f) / 18)) (sl' := (rPh γ el f - rPh γ0 el0 f)) (Nat.zero_le _) (Nat.zero_le _) ?_
  have lz0 : Int32.toInt 0 = 0 := by decide
  have r571824 : γ 6 f = γ0 6 f := by rw [hγ0]
  have r571825 : γ 7 f = γ0 7 f := by rw [hγ0]
  have r571826 : γ 16 f = γ0 16 f := by rw [hγ0]
  have r571827 : γ 18 f = γ0 18 f := by rw [hγ0]
  have r571828 : γ 19 f = γ0 19 f := by rw [hγ0]
  have hm571829 : q571812 ∈ P571810 := RS_m hT htq571812 (by decide)
  refine rk10_e (show rk_10 γ (F571811 q571812) from RS_o hT htq571812) (fun q571831 q571832 p571833 p571834 p571835 p571836 p571837 p571838 p571839 p571840 p571841 p571842 p571843 p571844 p571845 p571846 p571847 he571830 hB571874 ht571848 ht571849 ht571850 ht571851 ht571852 ht571853 ht571854 ht571855 ht571856 ht571857 ht571858 ht571859 ht571860 ht571861 ht571862 ht571863 ht571864 ht571865 ht571866 ht571867 ht571868 ht571869 ht571870 ht571871 hB571875 => ?_)
  have ac0_9 : (fI (F571811 q571812) 9).toInt = p571833.toInt := by rw [he571830]; rfl
  have ac0_10 : (fI (F571811 q571812) 10).toInt = p571834.toInt := by rw [he571830]; rfl
  have ac0_32 : (fI (F571811 q571812) 32).toInt = p571845.toInt := by rw [he571830]; rfl
  have r571876 : γ 6 fo = γ0 6 fo := by rw [hγ0]
  have r571877 : γ 7 fo = γ0 7 fo := by rw [hγ0]
  have r571878 : γ 16 fo = γ0 16 fo := by rw [hγ0]
  refine G_aload_n 0 dr_cX17_look_0 rfl ?_
  refine G_iconst 0 dr_cX17_look_1 (by decide +kernel) ?_
  refine Gp_put 30 hm571829 he571830 dr_cX17_look_2 (gk_X17 D I) (Nat.le_of_ble_eq_true rfl) wr_7_104 rfl rfl rfl (Nat.le_of_ble_eq_true rfl) (fun F571879 e571880 n571881 => ?_)
  have he571882 : F571879 q571812 = .inr (22, [.ref (γ 9 0), .ref (γ 9 1), .ref (γ 9 2), .ref (γ 9 3), .ref (γ 9 4), .ref (γ 9 5), .ref (γ 9 6), .ref (γ 9 7), .ref (γ 9 8), .int p571833, .int p571834, .int p571835, .int p571836, .int p571837, .int p571838, .ref (γ 9 15), .ref (γ 9 16), .ref (γ 9 17), .ref (γ 9 18), .ref (γ 9 19), .ref (γ 9 20), .ref (γ 9 21), .ref (γ 9 22), .int p571839, .int p571840, .int p571841, .int p571842, .int p571843, .ref q571831, .ref (γ 9 29), .int 0, .ref (γ 9 31), .int p571845, .int p571846, .int p571847, .ref q571832]) := e571880
  have mk571883 : mKp (F571811 q571812) (F571879 q571812) := mKp_tr mKp_rf (by rw [he571830, he571882]; exact ⟨rfl, rfl⟩)
  have hT571884 : RS D I P571810 F571879 γ el := RS_set hT n571881 htq571812 (by decide) ⟨q571831, q571832, p571833, p571834, p571835, p571836, p571837, p571838, p571839, p571840, p571841, p571842, p571843, 0, p571845, p571846, p571847, he571882, ⟨(hB571874.1), (hB571874.2.1), (hB571874.2.2.1), (hB571874.2.2.2.1), (hB571874.2.2.2.2.1), (hB571874.2.2.2.2.2.1), (hB571874.2.2.2.2.2.2.1), (hB571874.2.2.2.2.2.2.2.1), (hB571874.2.2.2.2.2.2.2.2)⟩, ht571848, ht571849, ht571850, ht571851, ht571852, ht571853, ht571854, ht571855, ht571856, ht571857, ht571858, ht571859, ht571860, ht571861, ht571862, ht571863, ht571864, ht571865, ht571866, ht571867, ht571868, ht571869, ht571870, ht571871, hB571875⟩
  have hs571885 := rSk_put hst hT571884 n571881 htq571812 (by decide) (by decide)
  have ac571886 : (fI (F571879 q571812) 10).toInt = p571834.toInt := by rw [he571882]; rfl
  have r571887 : γ 6 (γ 1 q571816) = γ 6 fo := by rw [hfo1]
  refine G_aload_n 0 dr_cX17_look_5 rfl ?_
  refine Gp_get 9 hm571829 he571882 dr_cX17_look_6 (gk_X17 D I) (Nat.le_of_ble_eq_true rfl) wr_7_83 rfl ?_
  have bp571833 : gB p571833 0 1 := (hB571874.1)
  refine G_if_ne 18 dr_cX17_look_9 (by decide +kernel) (fun hc571888 => ?_) (fun hc571888 => ?_)
  · have r571889 : p571833.toInt ≠ 0 := gj_neq hc571888 (show Int32.toInt 0 = 0 by decide)
    have bp571833' : gB p571833 1 1 := gB_t1 bp571833 r571889
    refine G_iload_n 2 dr_cX17_look_18 rfl ?_
    refine G_if_lt 27 dr_cX17_look_19 (by decide +kernel) (fun hc571890 => ?_) (fun hc571890 => ?_)
    · have r571891 : p571814.toInt < 0 := gj_lt hc571890 (show Int32.toInt 0 = 0 by decide)
      have bp571814' : gB p571814 (-2147483648) (-1) := ⟨by omega, by omega⟩
      refine G_aload_n 0 dr_cX17_look_27 rfl ?_
      refine G_iconst 2 dr_cX17_look_28 (by decide +kernel) ?_
      refine Gw_callV (As := [.int 2]) (gV_ok D I) (ct_571896_SpillForgeModel_no l hl0 D I γ el P571810 F571879 q571812 2 hT571884 htq571812) dr_cX17_look_29 ⟨wr_7_187, wr_1_14, wr_7_190, by decide, rfl, (Nat.le_of_ble_eq_true rfl), (Nat.le_of_ble_eq_true rfl)⟩ wr_7_189 wr_p_73 hm571829 he571882 rfl (rm_zc pk571823) (rm_zs pk571823) (Nat.le_of_ble_eq_true rfl) (fun r571957 w571958 dc571954 ds571955 hp571956 => ?_) (fun _ _ _ _ _ z => z.elim)
      obtain ⟨F571961, rfl, rfl, hT571962, hs571963, hdc, hds, x571959, x571960⟩ := hp571956
      have hs571964 := rSk_str hs571885 hT571962 hs571963 (by decide) (by decide) (by decide)
      have mk571965 : mKp (F571811 q571812) (F571961 q571812) := mKp_tr mk571883 x571960
      change G _ _ _ _ _ _ _ (.int 0 :: _) _ _ _
      refine G_widen (cs' := ((rPh γ el f - rPh γ0 el0 f) / 18)) (sl' := (rPh γ el f - rPh γ0 el0 f)) (rm_d0 hdc) (rm_d0 hds) ?_
      exact G_iretA dr_cX17_look_32 rfl (show ((rPh γ el f - rPh γ0 el0 f) / 18) ≤ (((387 * B + 6000) - rPh γ0 el0 f) / 18) by omega) (show (rPh γ el f - rPh γ0 el0 f) ≤ ((387 * B + 6000) - rPh γ0 el0 f) by omega) ⟨P571810, F571961, γ, el, 0, rfl, rfl, hs571964, ⟨by omega, by omega⟩, hB, (by have qa0 : Int32.toInt 0 = 0 := (by decide); omega), mk571965⟩
    · have r571966 : 0 ≤ p571814.toInt := gj_nlt hc571890 (show Int32.toInt 0 = 0 by decide)
      have bp571814' : gB p571814 0 2147483647 := ⟨by omega, by omega⟩
      refine G_iload_n 2 dr_cX17_look_22 rfl ?_
      refine G_iconst 3 dr_cX17_look_23 (by decide +kernel) ?_
      refine G_icmp_le 33 dr_cX17_look_24 (by decide +kernel) (fun hc571967 => ?_) (fun hc571967 => ?_)
      · have r571968 : p571814.toInt ≤ 3 := gj_le hc571967 (show Int32.toInt 3 = 3 by decide)
        have bp571814'' : gB p571814 0 3 := ⟨by omega, by omega⟩
        refine G_iload_n 2 dr_cX17_look_33 rfl ?_
        refine G_iconst 1 dr_cX17_look_34 (by decide +kernel) ?_
        refine G_icmp_le 100 dr_cX17_look_35 (by decide +kernel) (fun hc571969 => ?_) (fun hc571969 => ?_)
        · have r571970 : p571814.toInt ≤ 1 := gj_le hc571969 (show Int32.toInt 1 = 1 by decide)
          have bp571814''' : gB p571814 0 1 := ⟨by omega, by omega⟩
          refine G_aload_n 0 dr_cX17_look_100 rfl ?_
          refine G_aload_n 0 dr_cX17_look_101 rfl ?_
          refine Gp_get 6 hm571829 he571882 dr_cX17_look_102 (gk_X17 D I) (Nat.le_of_ble_eq_true rfl) wr_7_80 rfl ?_
          rw [show γ 9 6 = q571816 from (congrFun (rSk_9 hs571885) 6).trans hvq571816]
          refine G_iconst 0 dr_cX17_look_105 (by decide +kernel) ?_
          refine Gw_callV (As := [.ref q571816, .int 0]) (gV_ok D I) (ct_270169_SpillForgeModel_graph l hl0 D I γ el P571810 F571879 q571812 q571816 0 hT571884 htq571812 htq571816 (gB_w (gBl (show Int32.toInt 0 = 0 by decide)) (by decide) (by decide)) (by omega)) dr_cX17_look_106 ⟨wr_10_229, wr_1_14, wr_10_232, by decide, rfl, (Nat.le_of_ble_eq_true rfl), (Nat.le_of_ble_eq_true rfl)⟩ wr_10_231 wr_p_99 hm571829 he571882 rfl (rm_zc pk571823) (rm_zs pk571823) (Nat.le_of_ble_eq_true rfl) (fun r571974 w571975 dc571971 ds571972 hp571973 => ?_) (fun _ _ _ _ _ z => z.elim)
          obtain ⟨F571978, rfl, rfl, hT571979, hs571980, hdc, hds, x571976, x571977⟩ := hp571973
          have hs571981 := rSk_str hs571885 hT571979 hs571980 (by decide) (by decide) (by decide)
          have kp571982 : F571978 q571812 = F571879 q571812 := x571977
          have mk571983 : mKp (F571811 q571812) (F571978 q571812) := mKp_tr mk571883 (mKp_eq x571977)
          have he571984 : F571978 q571812 = .inr (22, [.ref (γ 9 0), .ref (γ 9 1), .ref (γ 9 2), .ref (γ 9 3), .ref (γ 9 4), .ref (γ 9 5), .ref (γ 9 6), .ref (γ 9 7), .ref (γ 9 8), .int p571833, .int p571834, .int p571835, .int p571836, .int p571837, .int p571838, .ref (γ 9 15), .ref (γ 9 16), .ref (γ 9 17), .ref (γ 9 18), .ref (γ 9 19), .ref (γ 9 20), .ref (γ 9 21), .ref (γ 9 22), .int p571839, .int p571840, .int p571841, .int p571842, .int p571843, .ref q571831, .ref (γ 9 29), .int 0, .ref (γ 9 31), .int p571845, .int p571846, .int p571847, .ref q571832]) := (x571977).trans he571882
          rw [show Int32.toInt 0 = 0 from by decide] at x571976
          change G _ _ _ _ _ _ _ _ _ _ _
          refine G_widen (cs' := ((rPh γ el f - rPh γ0 el0 f) / 18)) (sl' := (rPh γ el f - rPh γ0 el0 f)) (rm_d0 hdc) (rm_d0 hds) ?_
          refine G_iload_n 1 dr_cX17_look_109 rfl ?_
          refine G_if_lt 129 dr_cX17_look_110 (by decide +kernel) (fun hc571985 => ?_) (fun hc571985 => ?_)
          · have r571986 : p571813.toInt < 0 := gj_lt hc571985 (show Int32.toInt 0 = 0 by decide)
            have bp571813' : gB p571813 (-2147483648) (-1) := ⟨by omega, by omega⟩
            have ac571987 : (fI (F571978 q571812) 10).toInt = (fI (F571879 q571812) 10).toInt := by rw [kp571982]
            refine G_aload_n 0 dr_cX17_look_129 rfl ?_
            refine G_iconst 3 dr_cX17_look_130 (by decide +kernel) ?_
            refine Gw_callV (As := [.int 3]) (gV_ok D I) (ct_571896_SpillForgeModel_no l hl0 D I γ el P571810 F571978 q571812 3 hT571979 htq571812) dr_cX17_look_131 ⟨wr_7_187, wr_1_14, wr_7_190, by decide, rfl, (Nat.le_of_ble_eq_true rfl), (Nat.le_of_ble_eq_true rfl)⟩ wr_7_189 wr_p_73 hm571829 he571984 rfl (rm_zc pk571823) (rm_zs pk571823) (Nat.le_of_ble_eq_true rfl) (fun r571991 w571992 dc571988 ds571989 hp571990 => ?_) (fun _ _ _ _ _ z => z.elim)
            obtain ⟨F571995, rfl, rfl, hT571996, hs571997, hdc, hds, x571993, x571994⟩ := hp571990
            have hs571998 := rSk_str hs571981 hT571996 hs571997 (by decide) (by decide) (by decide)
            have mk571999 : mKp (F571811 q571812) (F571995 q571812) := mKp_tr mk571983 x571994
            change G _ _ _ _ _ _ _ (.int 0 :: _) _ _ _
            refine G_widen (cs' := ((rPh γ el f - rPh γ0 el0 f) / 18)) (sl' := (rPh γ el f - rPh γ0 el0 f)) (rm_d0 hdc) (rm_d0 hds) ?_
            exact G_iretA dr_cX17_look_134 rfl (show ((rPh γ el f - rPh γ0 el0 f) / 18) ≤ (((387 * B + 6000) - rPh γ0 el0 f) / 18) by omega) (show (rPh γ el f - rPh γ0 el0 f) ≤ ((387 * B + 6000) - rPh γ0 el0 f) by omega) ⟨P571810, F571995, γ, el, 0, rfl, rfl, hs571998, ⟨by omega, by omega⟩, hB, (by have qa0 : Int32.toInt 0 = 0 := (by decide); omega), mk571999⟩
          · have r572000 : 0 ≤ p571813.toInt := gj_nlt hc571985 (show Int32.toInt 0 = 0 by decide)
            have bp571813' : gB p571813 0 2147483647 := ⟨by omega, by omega⟩
            refine G_iload_n 1 dr_cX17_look_113 rfl ?_
            refine G_sipush 2000 dr_cX17_look_114 (by decide +kernel) ?_
            refine G_icmp_ge 129 dr_cX17_look_117 (by decide +kernel) (fun hc572001 => ?_) (fun hc572001 => ?_)
            · have r572002 : 2000 ≤ p571813.toInt := gj_leL hc572001 (show Int32.toInt 2000 = 2000 by decide)
              have bp571813'' : gB p571813 2000 2147483647 := ⟨by omega, by omega⟩
              have ac572003 : (fI (F571978 q571812) 10).toInt = (fI (F571879 q571812) 10).toInt := by rw [kp571982]
              refine G_aload_n 0 dr_cX17_look_129 rfl ?_
              refine G_iconst 3 dr_cX17_look_130 (by decide +kernel) ?_
              refine Gw_callV (As := [.int 3]) (gV_ok D I) (ct_571896_SpillForgeModel_no l hl0 D I γ el P571810 F571978 q571812 3 hT571979 htq571812) dr_cX17_look_131 ⟨wr_7_187, wr_1_14, wr_7_190, by decide, rfl, (Nat.le_of_ble_eq_true rfl), (Nat.le_of_ble_eq_true rfl)⟩ wr_7_189 wr_p_73 hm571829 he571984 rfl (rm_zc pk571823) (rm_zs pk571823) (Nat.le_of_ble_eq_true rfl) (fun r572007 w572008 dc572004 ds572005 hp572006 => ?_) (fun _ _ _ _ _ z => z.elim)
              obtain ⟨F572011, rfl, rfl, hT572012, hs572013, hdc, hds, x572009, x572010⟩ := hp572006
              have hs572014 := rSk_str hs571981 hT572012 hs572013 (by decide) (by decide) (by decide)
              have mk572015 : mKp (F571811 q571812) (F572011 q571812) := mKp_tr mk571983 x572010
              change G _ _ _ _ _ _ _ (.int 0 :: _) _ _ _
              refine G_widen (cs' := ((rPh γ el f - rPh γ0 el0 f) / 18)) (sl' := (rPh γ el f - rPh γ0 el0 f)) (rm_d0 hdc) (rm_d0 hds) ?_
              exact G_iretA dr_cX17_look_134 rfl (show ((rPh γ el f - rPh γ0 el0 f) / 18) ≤ (((387 * B + 6000) - rPh γ0 el0 f) / 18) by omega) (show (rPh γ el f - rPh γ0 el0 f) ≤ ((387 * B + 6000) - rPh γ0 el0 f) by omega) ⟨P571810, F572011, γ, el, 0, rfl, rfl, hs572014, ⟨by omega, by omega⟩, hB, (by have qa0 : Int32.toInt 0 = 0 := (by decide); omega), mk572015⟩
            · have r572016 : p571813.toInt < 2000 := gj_nleL hc572001 (show Int32.toInt 2000 = 2000 by decide)
              have bp571813'' : gB p571813 0 1999 := ⟨by omega, by omega⟩
              refine G_aload_n 0 dr_cX17_look_120 rfl ?_
              refine Gp_get 3 hm571829 he571984 dr_cX17_look_121 (gk_X17 D I) (Nat.le_of_ble_eq_true rfl) wr_7_77 rfl ?_
              refine G_iload_n 1 dr_cX17_look_124 rfl ?_
              have hm572017 : (γ 9 3) ∈ P571810 := RS_m hT571979 ht571853 (by decide)
              obtain ⟨f572019, he572018, bf572019⟩ := show rk_14 I (F571978 (γ 9 3)) from RS_o hT571979 ht571853
              refine Gp_zald 3 hm572017 he572018 dr_cX17_look_125 rfl (gB_in bp571813'' (by decide) (by decide)) (G_nam fun z572020 hz572020 => ?_)
              have bz572020 : gB z572020 0 1 := by rw [hz572020]; exact bf572019 _
              refine G_if_ne 135 dr_cX17_look_126 (by decide +kernel) (fun hc572021 => ?_) (fun hc572021 => ?_)
              · have r572022 : z572020.toInt ≠ 0 := gj_neq hc572021 (show Int32.toInt 0 = 0 by decide)
                have bz572020' : gB z572020 1 1 := gB_t1 bz572020 r572022
                refine G_aload_n 0 dr_cX17_look_135 rfl ?_
                refine Gp_get 8 hm571829 he571984 dr_cX17_look_136 (gk_X17 D I) (Nat.le_of_ble_eq_true rfl) wr_7_82 rfl ?_
                rw [show γ 9 8 = q571815 from (congrFun (rSk_9 hs571981) 8).trans hvq571815]
                refine G_aload_n 0 dr_cX17_look_139 rfl ?_
                refine Gp_get 6 hm571829 he571984 dr_cX17_look_140 (gk_X17 D I) (Nat.le_of_ble_eq_true rfl) wr_7_80 rfl ?_
                rw [show γ 9 6 = q571816 from (congrFun (rSk_9 hs571981) 6).trans hvq571816]
                have rg572023 := rM_ge hT571979 htq571815 hf1
                have rm572024 := rM_bd hB
                have bd572025 := rBd_c hT571979 htq571815 hf1 hB
                have rc572026 := rc_at hT571979 htq571815 hf1
                have hm572032 : q571815 ∈ P571810 := RS_m hT571979 htq571815 (by decide)
                obtain ⟨q572034, q572035, p572036, p572037, he572033, ht572053, ht572038, ht572039, ht572040, ht572041, r572042, r572043, r572044, r572045, r572046, r572047, r572048, r572049, r572050, r572051, r572052⟩ := show rk_9 γ el q571815 (F571978 q571815) from RS_o hT571979 htq571815
                have bp572036 : gB p572036 0 1000000 := ⟨by omega, by omega⟩
                have bp572037 : gB p572037 0 1000000 := ⟨by omega, by omega⟩
                have hf572054 : γ 1 q572034 = f := (show γ 1 q572034 = γ 1 q571815 from ht572039).trans hf1
                have hf572055 : γ 1 q572035 = f := (show γ 1 q572035 = γ 1 q571815 from ht572041).trans hf1
                have r572056 : γ 6 (γ 1 q571815) = γ 6 f := by rw [hf1]
                have r572057 : γ 16 (γ 1 q571815) = γ 16 f := by rw [hf1]
                refine Gw_callV (As := [.ref q571816]) (gV_ok D I) (cg_189834_Code_copy l hl0 D I γ el f fo B P571810 F571978 q571815 q571816 hT571979 htq571815 htq571816 hf1 hfo1 hne hB hBk (by omega) (by omega) (by omega)) dr_cX17_look_143 ⟨wr_10_128, wr_1_15, wr_10_131, by decide, rfl, (Nat.le_of_ble_eq_true rfl), (Nat.le_of_ble_eq_true rfl)⟩ wr_10_129 wr_10_130 hm572032 he572033 rfl (rm_gc hph pk571823) (rm_gs hph pk571823) (Nat.le_of_ble_eq_true rfl) (fun r572030 w572031 dc572027 ds572028 hp572029 => ?_) (fun _ _ _ _ _ z => z.elim)
                obtain ⟨P572062, F572063, γ, el, rfl, rfl, hk572064, ⟨hr572065, hr572066⟩, hB572067, x572058, x572059, x572060, x572061⟩ := hp572029
                have hT572068 := hk572064.1
                have hs572069 := rSk_tr hs571981 hk572064 (by decide) (by decide) (by decide)
                have kp572070 : F572063 q571812 = F571879 q571812 := (rSk_F hk572064 htq571812 (by decide) (by decide)).trans kp571982
                have r572071 := rSk_F hk572064 htq571812 (by decide) (by decide)
                have ht572072 : rKd γ q571812 10 := rSk_k hk572064 htq571812 (by decide) (by decide)
                have ht572073 : rKd γ q571815 9 := rSk_k hk572064 htq571815 (by decide) (by decide)
                have hf572074 : γ 1 q571815 = f := rSk_1 hk572064 htq571815 (by decide) hf1
                have ht572075 : rKd γ q571816 9 := rSk_kf hk572064 htq571816 (by decide) (by rw [hfo1]; exact hne)
                have hf572076 : γ 1 q571816 = fo := rSk_1 hk572064 htq571816 (by decide) hfo1
                have mk572077 : mKp (F571811 q571812) (F572063 q571812) := mKp_tr mk571983 (mKp_eq (rSk_F hk572064 htq571812 (by decide) (by decide)))
                clear r572042 r572043 r572044 r572045 r572046 r572047 r572049 r572050 r572051 r572052 bp572036 bp572037 rg572023 rm572024 bd572025 rc572026
                clear r572048
                have hph572078 : rPh γ0 el0 f ≤ rPh γ el f := rm_ph hph hr572066
                have pk572079 : rPh γ el f ≤ 387 * B + 6000 := rm_pk (rM_ge hT572068 ht572073 hf572074).1 (rM_bd hB572067)
                change G _ _ _ _ _ _ _ _ _ _ _
                refine G_widen (cs' := ((rPh γ el f - rPh γ0 el0 f) / 18)) (sl' := (rPh γ el f - rPh γ0 el0 f)) (rm_wc hph hr572065) (rm_ws hph hr572066) ?_
                have r572080 := rSk_g hs572069 hne
                have r572081 : γ 6 fo = γ0 6 fo := r572080.1
                have r572082 : γ 7 fo = γ0 7 fo := r572080.2.1
                have r572083 : γ 16 fo = γ0 16 fo := r572080.2.2.1
                have r572084 : 0 < γ 6 (γ 1 q571815) := by rw [hf572074]; omega
                have r572085 : γ 6 (γ 1 q571816) = γ 6 fo := by rw [hf572076]
                refine G_aload_n 0 dr_cX17_look_146 rfl ?_
                refine G_aload_n 0 dr_cX17_look_147 rfl ?_
                have hm572086 : q571812 ∈ P572062 := RS_m hT572068 ht572072 (by decide)
                refine rk10_e (show rk_10 γ (F572063 q571812) from RS_o hT572068 ht572072) (fun q572088 q572089 p572090 p572091 p572092 p572093 p572094 p572095 p572096 p572097 p572098 p572099 p572100 p572101 p572102 p572103 p572104 he572087 hB572131 ht572105 ht572106 ht572107 ht572108 ht572109 ht572110 ht572111 ht572112 ht572113 ht572114 ht572115 ht572116 ht572117 ht572118 ht572119 ht572120 ht572121 ht572122 ht572123 ht572124 ht572125 ht572126 ht572127 ht572128 hB572132 => ?_)
                refine Gp_get 8 hm572086 he572087 dr_cX17_look_148 (gk_X17 D I) (Nat.le_of_ble_eq_true rfl) wr_7_82 rfl ?_
                rw [show γ 9 8 = q571815 from (congrFun (rSk_9 hs572069) 8).trans hvq571815]
                have rg572133 := rM_ge hT572068 ht572073 hf572074
                have rm572134 := rM_bd hB572067
                have bd572135 := rBd_c hT572068 ht572073 hf572074 hB572067
                have rc572136 := rc_at hT572068 ht572073 hf572074
                refine Gw_callV (As := [.ref q571815]) (gV_ok D I) (cg_356980_SpillForgeModel_zeros l hl0 D I γ el f B P572062 F572063 q571812 q571815 hT572068 ht572072 ht572073 hf572074 hB572067 hBk (by omega) (by omega)) dr_cX17_look_151 ⟨wr_10_148, wr_1_14, wr_10_151, by decide, rfl, (Nat.le_of_ble_eq_true rfl), (Nat.le_of_ble_eq_true rfl)⟩ wr_10_150 wr_p_93 hm572086 he572087 rfl (rm_gc hph572078 pk572079) (rm_gs hph572078 pk572079) (Nat.le_of_ble_eq_true rfl) (fun r572140 w572141 dc572137 ds572138 hp572139 => ?_) (fun _ _ _ _ _ z => z.elim)
                obtain ⟨P572147, F572148, γ, el, rfl, rfl, hk572149, ⟨hr572150, hr572151⟩, hB572152, x572142, x572143, x572144, x572145, x572146⟩ := hp572139
                have hT572153 := hk572149.1
                have hs572154 := rSk_tr hs572069 hk572149 (by decide) (by decide) (by decide)
                have ht572155 : rKd γ q571812 10 := rSk_k hk572149 ht572072 (by decide) (by decide)
                have ht572156 : rKd γ q571815 9 := rSk_k hk572149 ht572073 (by decide) (by decide)
                have hf572157 : γ 1 q571815 = f := rSk_1 hk572149 ht572073 (by decide) hf572074
                have ht572158 : rKd γ q571816 9 := rSk_kf hk572149 ht572075 (by decide) (by rw [hf572076]; exact hne)
                have hf572159 : γ 1 q571816 = fo := rSk_1 hk572149 ht572075 (by decide) hf572076
                clear rg572133 rm572134 bd572135 rc572136
                have mk572160 : mKp (F571811 q571812) (F572148 q571812) := mKp_tr mk572077 (mKp_eq x572146)
                have hph572161 : rPh γ0 el0 f ≤ rPh γ el f := rm_ph hph572078 hr572151
                have pk572162 : rPh γ el f ≤ 387 * B + 6000 := rm_pk (rM_ge hT572153 ht572156 hf572157).1 (rM_bd hB572152)
                change G _ _ _ _ _ _ _ _ _ _ _
                refine G_widen (cs' := ((rPh γ el f - rPh γ0 el0 f) / 18)) (sl' := (rPh γ el f - rPh γ0 el0 f)) (rm_wc hph572078 hr572150) (rm_ws hph572078 hr572151) ?_
                have r572163 := rSk_g hs572154 hne
                have r572164 : γ 6 fo = γ0 6 fo := r572163.1
                have r572165 : γ 7 fo = γ0 7 fo := r572163.2.1
                have r572166 : γ 16 fo = γ0 16 fo := r572163.2.2.1
                have r572167 : 0 < γ 6 (γ 1 q571815) := by rw [hf572157]; omega
                have r572168 : γ 6 (γ 1 q571816) = γ 6 fo := by rw [hf572159]
                refine G_aload_n 0 dr_cX17_look_154 rfl ?_
                refine G_aload_n 0 dr_cX17_look_155 rfl ?_
                have hm572169 : q571812 ∈ P572147 := RS_m hT572153 ht572155 (by decide)
                refine rk10_e (show rk_10 γ (F572148 q571812) from RS_o hT572153 ht572155) (fun q572171 q572172 p572173 p572174 p572175 p572176 p572177 p572178 p572179 p572180 p572181 p572182 p572183 p572184 p572185 p572186 p572187 he572170 hB572214 ht572188 ht572189 ht572190 ht572191 ht572192 ht572193 ht572194 ht572195 ht572196 ht572197 ht572198 ht572199 ht572200 ht572201 ht572202 ht572203 ht572204 ht572205 ht572206 ht572207 ht572208 ht572209 ht572210 ht572211 hB572215 => ?_)
                refine Gp_get 8 hm572169 he572170 dr_cX17_look_156 (gk_X17 D I) (Nat.le_of_ble_eq_true rfl) wr_7_82 rfl ?_
                rw [show γ 9 8 = q571815 from (congrFun (rSk_9 hs572154) 8).trans hvq571815]
                refine G_iconst 0 dr_cX17_look_159 (by decide +kernel) ?_
                refine Gw_callV (As := [.ref q571815, .int 0]) (gV_ok D I) (ct_270169_SpillForgeModel_graph l hl0 D I γ el P572147 F572148 q571812 q571815 0 hT572153 ht572155 ht572156 (gB_w (gBl (show Int32.toInt 0 = 0 by decide)) (by decide) (by decide)) (by omega)) dr_cX17_look_160 ⟨wr_10_229, wr_1_14, wr_10_232, by decide, rfl, (Nat.le_of_ble_eq_true rfl), (Nat.le_of_ble_eq_true rfl)⟩ wr_10_231 wr_p_99 hm572169 he572170 rfl (rm_zc pk572162) (rm_zs pk572162) (Nat.le_of_ble_eq_true rfl) (fun r572219 w572220 dc572216 ds572217 hp572218 => ?_) (fun _ _ _ _ _ z => z.elim)
                obtain ⟨F572223, rfl, rfl, hT572224, hs572225, hdc, hds, x572221, x572222⟩ := hp572218
                have hs572226 := rSk_str hs572154 hT572224 hs572225 (by decide) (by decide) (by decide)
                have kp572227 : F572223 q571812 = F571879 q571812 := (x572222).trans (x572146.trans kp572070)
                have mk572228 : mKp (F571811 q571812) (F572223 q571812) := mKp_tr mk572160 (mKp_eq x572222)
                have he572229 : F572223 q571812 = .inr (22, [.ref (γ 9 0), .ref (γ 9 1), .ref (γ 9 2), .ref (γ 9 3), .ref (γ 9 4), .ref (γ 9 5), .ref (γ 9 6), .ref (γ 9 7), .ref (γ 9 8), .int p572173, .int p572174, .int p572175, .int p572176, .int p572177, .int p572178, .ref (γ 9 15), .ref (γ 9 16), .ref (γ 9 17), .ref (γ 9 18), .ref (γ 9 19), .ref (γ 9 20), .ref (γ 9 21), .ref (γ 9 22), .int p572179, .int p572180, .int p572181, .int p572182, .int p572183, .ref q572171, .ref (γ 9 29), .int p572184, .ref (γ 9 31), .int p572185, .int p572186, .int p572187, .ref q572172]) := (x572222).trans he572170
                rw [show Int32.toInt 0 = 0 from by decide] at x572221
                change G _ _ _ _ _ _ _ _ _ _ _
                refine G_widen (cs' := ((rPh γ el f - rPh γ0 el0 f) / 18)) (sl' := (rPh γ el f - rPh γ0 el0 f)) (rm_d0 hdc) (rm_d0 hds) ?_
                refine G_aload_n 0 dr_cX17_look_163 rfl ?_
                refine G_aload_n 0 dr_cX17_look_164 rfl ?_
                refine Gp_get 8 hm572169 he572229 dr_cX17_look_165 (gk_X17 D I) (Nat.le_of_ble_eq_true rfl) wr_7_82 rfl ?_
                rw [show γ 9 8 = q571815 from (congrFun (rSk_9 hs572226) 8).trans hvq571815]
                refine Gw_callV (As := [.ref q571815]) (gV_ok D I) (ct_398573_SpillForgeModel_weigh l hl0 D I γ el P572147 F572223 q571812 q571815 hT572224 ht572155 ht572156 (by omega)) dr_cX17_look_168 ⟨wr_11_29, wr_1_14, wr_11_32, by decide, rfl, (Nat.le_of_ble_eq_true rfl), (Nat.le_of_ble_eq_true rfl)⟩ wr_11_31 wr_p_104 hm572169 he572229 rfl (rm_zc pk572162) (rm_zs pk572162) (Nat.le_of_ble_eq_true rfl) (fun r572233 w572234 dc572230 ds572231 hp572232 => ?_) (fun _ _ _ _ _ z => z.elim)
                obtain ⟨F572237, rfl, rfl, hT572238, hs572239, hdc, hds, x572235, x572236⟩ := hp572232
                have hs572240 := rSk_str hs572226 hT572238 hs572239 (by decide) (by decide) (by decide)
                have kp572241 : F572237 q571812 = F571879 q571812 := (x572235).trans kp572227
                have mk572242 : mKp (F571811 q571812) (F572237 q571812) := mKp_tr mk572228 (mKp_eq x572235)
                have he572243 : F572237 q571812 = .inr (22, [.ref (γ 9 0), .ref (γ 9 1), .ref (γ 9 2), .ref (γ 9 3), .ref (γ 9 4), .ref (γ 9 5), .ref (γ 9 6), .ref (γ 9 7), .ref (γ 9 8), .int p572173, .int p572174, .int p572175, .int p572176, .int p572177, .int p572178, .ref (γ 9 15), .ref (γ 9 16), .ref (γ 9 17), .ref (γ 9 18), .ref (γ 9 19), .ref (γ 9 20), .ref (γ 9 21), .ref (γ 9 22), .int p572179, .int p572180, .int p572181, .int p572182, .int p572183, .ref q572171, .ref (γ 9 29), .int p572184, .ref (γ 9 31), .int p572185, .int p572186, .int p572187, .ref q572172]) := (x572235).trans he572229
                change G _ _ _ _ _ _ _ _ _ _ _
                refine G_widen (cs' := ((rPh γ el f - rPh γ0 el0 f) / 18)) (sl' := (rPh γ el f - rPh γ0 el0 f)) (rm_d0 hdc) (rm_d0 hds) ?_
                refine G_iload_n 2 dr_cX17_look_171 rfl ?_
                refine G_if_ne 184 dr_cX17_look_172 (by decide +kernel) (fun hc572244 => ?_) (fun hc572244 => ?_)
                · have r572245 : p571814.toInt ≠ 0 := gj_neq hc572244 (show Int32.toInt 0 = 0 by decide)
                  have bp571814'''' : gB p571814 1 1 := gB_t1 bp571814''' r572245
                  refine G_aload_n 0 dr_cX17_look_184 rfl ?_
                  refine Gp_get 1 hm572169 he572243 dr_cX17_look_185 (gk_X17 D I) (Nat.le_of_ble_eq_true rfl) wr_7_75 rfl ?_
                  refine G_iload_n 1 dr_cX17_look_188 rfl ?_
                  have hm572246 : (γ 9 1) ∈ P572147 := RS_m hT572238 ht572191 (by decide)
                  obtain ⟨f572248, he572247, hg572249⟩ := show rk_13 I γ (F572237 (γ 9 1)) from RS_o hT572238 ht572191
                  obtain ⟨q572250, hx572252⟩ : ∃ x, x = γ 11 p571813.toInt.toNat := ⟨_, rfl⟩
                  have ht572251 : rKd γ q572250 36 := by rw [hx572252]; exact (hg572249 _ (show p571813.toInt.toNat < 2000 by omega)).2.1
                  refine Gp_aald 5 hm572246 he572247 dr_cX17_look_189 rfl rfl (gB_in bp571813'' (by decide) (by decide)) ?_
                  rw [show f572248 p571813.toNatClampNeg = some q572250 from (hg572249 _ (show p571813.toInt.toNat < 2000 by omega)).1.trans (by rw [hx572252])]
                  change G _ _ _ _ _ _ _ (.ref q572250 :: _) _ _ _
                  have hm572253 : q572250 ∈ P572147 := RS_m hT572238 ht572251 (by decide)
                  obtain ⟨f572255, he572254, wf572255⟩ := show rk_36 I (F572237 q572250) from RS_o hT572238 ht572251
                  refine Gw_callS (As := [.ref q572250]) (gV_ok D I) (cp_1892_SpillForgeModel_count l hl0 D I P572147 F572237 q572250 f572255 hm572253 he572254) dr_cX17_look_190 ⟨wr_11_12, wr_1_14, wr_11_14, by decide, rfl, (Nat.le_of_ble_eq_true rfl), (Nat.le_of_ble_eq_true rfl)⟩ wr_11_13 (rm_zc pk572162) (rm_zs pk572162) (Nat.le_of_ble_eq_true rfl) (fun r572259 w572260 dc572256 ds572257 hp572258 => ?_) (fun _ _ _ _ _ z => z.elim)
                  obtain ⟨o572261, rfl, rfl, hdc, hds⟩ := hp572258
                  have bo572261 := gB_any o572261
                  change G _ _ _ _ _ _ _ (.int o572261 :: _) _ _ _
                  refine G_widen (cs' := ((rPh γ el f - rPh γ0 el0 f) / 18)) (sl' := (rPh γ el f - rPh γ0 el0 f)) (rm_d0 hdc) (rm_d0 hds) ?_
                  have ac572262 : (fI (F572237 q571812) 10).toInt = (fI (F571879 q571812) 10).toInt := by rw [kp572241]
                  exact G_iretA dr_cX17_look_193 rfl (show ((rPh γ el f - rPh γ0 el0 f) / 18) ≤ (((387 * B + 6000) - rPh γ0 el0 f) / 18) by omega) (show (rPh γ el f - rPh γ0 el0 f) ≤ ((387 * B + 6000) - rPh γ0 el0 f) by omega) ⟨P572147, F572237, γ, el, o572261, rfl, rfl, hs572240, ⟨by omega, by omega⟩, hB572152, (by omega), mk572242⟩
                · have r572263 : p571814.toInt = 0 := gj_eq hc572244 (show Int32.toInt 0 = 0 by decide)
                  have bp571814'''' : gB p571814 0 0 := gB_t0 r572263
                  refine G_aload_n 0 dr_cX17_look_175 rfl ?_
                  refine Gp_get 5 hm572169 he572243 dr_cX17_look_176 (gk_X17 D I) (Nat.le_of_ble_eq_true rfl) wr_7_79 rfl ?_
                  refine G_iload_n 1 dr_cX17_look_179 rfl ?_
                  have hm572264 : (γ 9 5) ∈ P572147 := RS_m hT572238 ht572195 (by decide)
                  obtain ⟨f572266, he572265⟩ := show rk_17 I (F572237 (γ 9 5)) from RS_o hT572238 ht572195
                  refine Gp_iald 0 hm572264 he572265 dr_cX17_look_180 rfl (gB_in bp571813'' (by decide) (by decide)) (G_nam fun z572267 hz572267 => ?_)
                  have bz572267 : gB z572267 (-2147483648) 2147483647 := gB_any z572267
                  refine G_goto 193 dr_cX17_look_181 (by decide +kernel) ?_
                  have ac572268 : (fI (F572237 q571812) 10).toInt = (fI (F571879 q571812) 10).toInt := by rw [kp572241]
                  exact G_iretA dr_cX17_look_193 rfl (show ((rPh γ el f - rPh γ0 el0 f) / 18) ≤ (((387 * B + 6000) - rPh γ0 el0 f) / 18) by omega) (show (rPh γ el f - rPh γ0 el0 f) ≤ ((387 * B + 6000) - rPh γ0 el0 f) by omega) ⟨P572147, F572237, γ, el, z572267, rfl, rfl, hs572240, ⟨by omega, by omega⟩, hB572152, (by omega), mk572242⟩
              · have r572269 : z572020.toInt = 0 := gj_eq hc572021 (show Int32.toInt 0 = 0 by decide)
                have bz572020' : gB z572020 0 0 := gB_t0 r572269
                have ac572270 : (fI (F571978 q571812) 10).toInt = (fI (F571879 q571812) 10).toInt := by rw [kp571982]
                refine G_aload_n 0 dr_cX17_look_129 rfl ?_
                refine G_iconst 3 dr_cX17_look_130 (by decide +kernel) ?_
                refine Gw_callV (As := [.int 3]) (gV_ok D I) (ct_571896_SpillForgeModel_no l hl0 D I γ el P571810 F571978 q571812 3 hT571979 htq571812) dr_cX17_look_131 ⟨wr_7_187, wr_1_14, wr_7_190, by decide, rfl, (Nat.le_of_ble_eq_true rfl), (Nat.le_of_ble_eq_true rfl)⟩ wr_7_189 wr_p_73 hm571829 he571984 rfl (rm_zc pk571823) (rm_zs pk571823) (Nat.le_of_ble_eq_true rfl) (fun r572274 w572275 dc572271 ds572272 hp572273 => ?_) (fun _ _ _ _ _ z => z.elim)
                obtain ⟨F572278, rfl, rfl, hT572279, hs572280, hdc, hds, x572276, x572277⟩ := hp572273
                have hs572281 := rSk_str hs571981 hT572279 hs572280 (by decide) (by decide) (by decide)
                have mk572282 : mKp (F571811 q571812) (F572278 q571812) := mKp_tr mk571983 x572277
                change G _ _ _ _ _ _ _ (.int 0 :: _) _ _ _
                refine G_widen (cs' := ((rPh γ el f - rPh γ0 el0 f) / 18)) (sl' := (rPh γ el f - rPh γ0 el0 f)) (rm_d0 hdc) (rm_d0 hds) ?_
                exact G_iretA dr_cX17_look_134 rfl (show ((rPh γ el f - rPh γ0 el0 f) / 18) ≤ (((387 * B + 6000) - rPh γ0 el0 f) / 18) by omega) (show (rPh γ el f - rPh γ0 el0 f) ≤ ((387 * B + 6000) - rPh γ0 el0 f) by omega) ⟨P571810, F572278, γ, el, 0, rfl, rfl, hs572281, ⟨by omega, by omega⟩, hB, (by have qa0 : Int32.toInt 0 = 0 := (by decide); omega), mk572282⟩
        · have r572283 : 1 < p571814.toInt := gj_nle hc571969 (show Int32.toInt 1 = 1 by decide)
          have bp571814''' : gB p571814 2 3 := ⟨by omega, by omega⟩
          refine G_iload_n 1 dr_cX17_look_38 rfl ?_
          refine G_if_lt 53 dr_cX17_look_39 (by decide +kernel) (fun hc572284 => ?_) (fun hc572284 => ?_)
          · have r572285 : p571813.toInt < 0 := gj_lt hc572284 (show Int32.toInt 0 = 0 by decide)
            have bp571813' : gB p571813 (-2147483648) (-1) := ⟨by omega, by omega⟩
            refine G_aload_n 0 dr_cX17_look_53 rfl ?_
            refine G_iconst 3 dr_cX17_look_54 (by decide +kernel) ?_
            refine Gw_callV (As := [.int 3]) (gV_ok D I) (ct_571896_SpillForgeModel_no l hl0 D I γ el P571810 F571879 q571812 3 hT571884 htq571812) dr_cX17_look_55 ⟨wr_7_187, wr_1_14, wr_7_190, by decide, rfl, (Nat.le_of_ble_eq_true rfl), (Nat.le_of_ble_eq_true rfl)⟩ wr_7_189 wr_p_73 hm571829 he571882 rfl (rm_zc pk571823) (rm_zs pk571823) (Nat.le_of_ble_eq_true rfl) (fun r572289 w572290 dc572286 ds572287 hp572288 => ?_) (fun _ _ _ _ _ z => z.elim)
            obtain ⟨F572293, rfl, rfl, hT572294, hs572295, hdc, hds, x572291, x572292⟩ := hp572288
            have hs572296 := rSk_str hs571885 hT572294 hs572295 (by decide) (by decide) (by decide)
            have mk572297 : mKp (F571811 q571812) (F572293 q571812) := mKp_tr mk571883 x572292
            change G _ _ _ _ _ _ _ (.int 0 :: _) _ _ _
            refine G_widen (cs' := ((rPh γ el f - rPh γ0 el0 f) / 18)) (sl' := (rPh γ el f - rPh γ0 el0 f)) (rm_d0 hdc) (rm_d0 hds) ?_
            exact G_iretA dr_cX17_look_58 rfl (show ((rPh γ el f - rPh γ0 el0 f) / 18) ≤ (((387 * B + 6000) - rPh γ0 el0 f) / 18) by omega) (show (rPh γ el f - rPh γ0 el0 f) ≤ ((387 * B + 6000) - rPh γ0 el0 f) by omega) ⟨P571810, F572293, γ, el, 0, rfl, rfl, hs572296, ⟨by omega, by omega⟩, hB, (by have qa0 : Int32.toInt 0 = 0 := (by decide); omega), mk572297⟩
          · have r572298 : 0 ≤ p571813.toInt := gj_nlt hc572284 (show Int32.toInt 0 = 0 by decide)
            have bp571813' : gB p571813 0 2147483647 := ⟨by omega, by omega⟩
            refine G_iload_n 1 dr_cX17_look_42 rfl ?_
            refine G_aload_n 0 dr_cX17_look_43 rfl ?_
            refine Gp_get 6 hm571829 he571882 dr_cX17_look_44 (gk_X17 D I) (Nat.le_of_ble_eq_true rfl) wr_7_80 rfl ?_
            rw [show γ 9 6 = q571816 from (congrFun (rSk_9 hs571885) 6).trans hvq571816]
            have hm572299 : q571816 ∈ P571810 := RS_m hT571884 htq571816 (by decide)
            obtain ⟨q572301, q572302, p572303, p572304, he572300, ht572320, ht572305, ht572306, ht572307, ht572308, r572309, r572310, r572311, r572312, r572313, r572314, r572315, r572316, r572317, r572318, r572319⟩ := show rk_9 γ el q571816 (F571879 q571816) from RS_o hT571884 htq571816
            have bp572303 : gB p572303 0 1000000 := ⟨by omega, by omega⟩
            have bp572304 : gB p572304 0 1000000 := ⟨by omega, by omega⟩
            have hf572321 : γ 1 q572301 = fo := (show γ 1 q572301 = γ 1 q571816 from ht572306).trans hfo1
            have hf572322 : γ 1 q572302 = fo := (show γ 1 q572302 = γ 1 q571816 from ht572308).trans hfo1
            have r572323 : γ 6 (γ 1 q571816) = γ 6 fo := by rw [hfo1]
            have r572324 : γ 16 (γ 1 q571816) = γ 16 fo := by rw [hfo1]
            have r572325 : p572304.toInt = γ 6 fo ∧ p572304.toInt ≤ 40 := by omega
            clear r572315
            refine Gw_callV (As := []) (gV_ok D I) (cp_12496_Code_size l hl0 D I P571810 F571879 q571816 q572301 q572302 p572303 p572304 hm572299 he572300) dr_cX17_look_47 ⟨wr_10_156, wr_1_15, wr_9_127, by decide, rfl, (Nat.le_of_ble_eq_true rfl), (Nat.le_of_ble_eq_true rfl)⟩ wr_9_125 wr_9_126 hm572299 he572300 rfl (rm_zc pk571823) (rm_zs pk571823) (Nat.le_of_ble_eq_true rfl) (fun r572329 w572330 dc572326 ds572327 hp572328 => ?_) (fun _ _ _ _ _ z => z.elim)
            obtain ⟨rfl, rfl, hdc, hds⟩ := hp572328
            change G _ _ _ _ _ _ _ (.int p572304 :: _) _ _ _
            refine G_widen (cs' := ((rPh γ el f - rPh γ0 el0 f) / 18)) (sl' := (rPh γ el f - rPh γ0 el0 f)) (rm_d0 hdc) (rm_d0 hds) ?_
            refine G_icmp_lt 59 dr_cX17_look_50 (by decide +kernel) (fun hc572331 => ?_) (fun hc572331 => ?_)
            · have r572332 : p571813.toInt < p572304.toInt := gC_lt hc572331
              have bp571813'' : gB p571813 0 999999 := ⟨by omega, by omega⟩
              have bp572304' : gB p572304 1 1000000 := ⟨by omega, by omega⟩
              refine G_aload_n 0 dr_cX17_look_59 rfl ?_
              refine G_aload_n 0 dr_cX17_look_60 rfl ?_
              refine Gp_get 6 hm571829 he571882 dr_cX17_look_61 (gk_X17 D I) (Nat.le_of_ble_eq_true rfl) wr_7_80 rfl ?_
              rw [show γ 9 6 = q571816 from (congrFun (rSk_9 hs571885) 6).trans hvq571816]
              refine G_iconst 0 dr_cX17_look_64 (by decide +kernel) ?_
              refine Gw_callV (As := [.ref q571816, .int 0]) (gV_ok D I) (ct_218861_SpillForgeModel_findLive l hl0 D I γ el P571810 F571879 q571812 q571816 0 hT571884 htq571812 htq571816 (gB_w (gBl (show Int32.toInt 0 = 0 by decide)) (by decide) (by decide)) (by omega)) dr_cX17_look_65 ⟨wr_10_152, wr_1_14, wr_10_155, by decide, rfl, (Nat.le_of_ble_eq_true rfl), (Nat.le_of_ble_eq_true rfl)⟩ wr_10_154 wr_p_94 hm571829 he571882 rfl (rm_zc pk571823) (rm_zs pk571823) (Nat.le_of_ble_eq_true rfl) (fun r572336 w572337 dc572333 ds572334 hp572335 => ?_) (fun _ _ _ _ _ z => z.elim)
              obtain ⟨F572339, rfl, rfl, hT572340, hs572341, hdc, hds, x572338⟩ := hp572335
              have he572342 : F572339 q571816 = .inr (18, [.ref q572301, .ref q572302, .int p572303, .int p572304]) := (hs572341 q571816 (rT0 htq571816 (by decide)) (rT1 htq571816 (by decide)) (rT2 htq571816 (by decide))).trans he572300
              have hs572343 := rSk_str hs571885 hT572340 hs572341 (by decide) (by decide) (by decide)
              have kp572344 : F572339 q571812 = F571879 q571812 := x572338
              have mk572345 : mKp (F571811 q571812) (F572339 q571812) := mKp_tr mk571883 (mKp_eq x572338)
              have he572346 : F572339 q571812 = .inr (22, [.ref (γ 9 0), .ref (γ 9 1), .ref (γ 9 2), .ref (γ 9 3), .ref (γ 9 4), .ref (γ 9 5), .ref (γ 9 6), .ref (γ 9 7), .ref (γ 9 8), .int p571833, .int p571834, .int p571835, .int p571836, .int p571837, .int p571838, .ref (γ 9 15), .ref (γ 9 16), .ref (γ 9 17), .ref (γ 9 18), .ref (γ 9 19), .ref (γ 9 20), .ref (γ 9 21), .ref (γ 9 22), .int p571839, .int p571840, .int p571841, .int p571842, .int p571843, .ref q571831, .ref (γ 9 29), .int 0, .ref (γ 9 31), .int p571845, .int p571846, .int p571847, .ref q571832]) := (x572338).trans he571882
              change G _ _ _ _ _ _ _ _ _ _ _
              refine G_widen (cs' := ((rPh γ el f - rPh γ0 el0 f) / 18)) (sl' := (rPh γ el f - rPh γ0 el0 f)) (rm_d0 hdc) (rm_d0 hds) ?_
              refine G_aload_n 0 dr_cX17_look_68 rfl ?_
              refine G_aload_n 0 dr_cX17_look_69 rfl ?_
              refine Gp_get 6 hm571829 he572346 dr_cX17_look_70 (gk_X17 D I) (Nat.le_of_ble_eq_true rfl) wr_7_80 rfl ?_
              rw [show γ 9 6 = q571816 from (congrFun (rSk_9 hs572343) 6).trans hvq571816]
              refine Gw_callV (As := [.ref q571816]) (gV_ok D I) (ct_398626_SpillForgeModel_findDepth l hl0 D I γ el P571810 F572339 q571812 q571816 hT572340 htq571812 htq571816 (by omega)) dr_cX17_look_73 ⟨wr_11_33, wr_1_14, wr_11_36, by decide, rfl, (Nat.le_of_ble_eq_true rfl), (Nat.le_of_ble_eq_true rfl)⟩ wr_11_35 wr_p_105 hm571829 he572346 rfl (rm_zc pk571823) (rm_zs pk571823) (Nat.le_of_ble_eq_true rfl) (fun r572350 w572351 dc572347 ds572348 hp572349 => ?_) (fun _ _ _ _ _ z => z.elim)
              obtain ⟨F572354, rfl, rfl, hT572355, hs572356, hdc, hds, x572352, x572353⟩ := hp572349
              have he572357 : F572354 q571816 = .inr (18, [.ref q572301, .ref q572302, .int p572303, .int p572304]) := (hs572356 q571816 (rT0 htq571816 (by decide)) (rT1 htq571816 (by decide)) (rT2 htq571816 (by decide))).trans he572342
              have hs572358 := rSk_str hs572343 hT572355 hs572356 (by decide) (by decide) (by decide)
              have kp572359 : F572354 q571812 = F571879 q571812 := (x572352).trans kp572344
              have mk572360 : mKp (F571811 q571812) (F572354 q571812) := mKp_tr mk572345 (mKp_eq x572352)
              have he572361 : F572354 q571812 = .inr (22, [.ref (γ 9 0), .ref (γ 9 1), .ref (γ 9 2), .ref (γ 9 3), .ref (γ 9 4), .ref (γ 9 5), .ref (γ 9 6), .ref (γ 9 7), .ref (γ 9 8), .int p571833, .int p571834, .int p571835, .int p571836, .int p571837, .int p571838, .ref (γ 9 15), .ref (γ 9 16), .ref (γ 9 17), .ref (γ 9 18), .ref (γ 9 19), .ref (γ 9 20), .ref (γ 9 21), .ref (γ 9 22), .int p571839, .int p571840, .int p571841, .int p571842, .int p571843, .ref q571831, .ref (γ 9 29), .int 0, .ref (γ 9 31), .int p571845, .int p571846, .int p571847, .ref q571832]) := (x572352).trans he572346
              change G _ _ _ _ _ _ _ _ _ _ _
              refine G_widen (cs' := ((rPh γ el f - rPh γ0 el0 f) / 18)) (sl' := (rPh γ el f - rPh γ0 el0 f)) (rm_d0 hdc) (rm_d0 hds) ?_
              refine G_iload_n 2 dr_cX17_look_76 rfl ?_
              refine G_iconst 2 dr_cX17_look_77 (by decide +kernel) ?_
              refine G_icmp_ne 93 dr_cX17_look_78 (by decide +kernel) (fun hc572362 => ?_) (fun hc572362 => ?_)
              · have r572363 : p571814.toInt ≠ 2 := gj_neq hc572362 (show Int32.toInt 2 = 2 by decide)
                have bp571814'''' : gB p571814 3 3 := ⟨by omega, by omega⟩
                refine G_aload_n 0 dr_cX17_look_93 rfl ?_
                refine Gp_get 4 hm571829 he572361 dr_cX17_look_94 (gk_X17 D I) (Nat.le_of_ble_eq_true rfl) wr_7_78 rfl ?_
                refine G_iload_n 1 dr_cX17_look_97 rfl ?_
                have hm572364 : (γ 9 4) ∈ P571810 := RS_m hT572355 ht571854 (by decide)
                obtain ⟨f572366, he572365⟩ := show rk_16 I (F572354 (γ 9 4)) from RS_o hT572355 ht571854
                refine Gp_iald 0 hm572364 he572365 dr_cX17_look_98 rfl (gB_inr (by omega) (by omega)) (G_nam fun z572367 hz572367 => ?_)
                have bz572367 : gB z572367 (-2147483648) 2147483647 := gB_any z572367
                have ac572368 : (fI (F572354 q571812) 10).toInt = (fI (F571879 q571812) 10).toInt := by rw [kp572359]
                exact G_iretA dr_cX17_look_99 rfl (show ((rPh γ el f - rPh γ0 el0 f) / 18) ≤ (((387 * B + 6000) - rPh γ0 el0 f) / 18) by omega) (show (rPh γ el f - rPh γ0 el0 f) ≤ ((387 * B + 6000) - rPh γ0 el0 f) by omega) ⟨P571810, F572354, γ, el, z572367, rfl, rfl, hs572358, ⟨by omega, by omega⟩, hB, (by omega), mk572360⟩
              · have r572369 : p571814.toInt = 2 := gj_eq hc572362 (show Int32.toInt 2 = 2 by decide)
                have bp571814'''' : gB p571814 2 2 := ⟨by omega, by omega⟩
                refine G_aload_n 0 dr_cX17_look_81 rfl ?_
                refine Gp_get 0 hm571829 he572361 dr_cX17_look_82 (gk_X17 D I) (Nat.le_of_ble_eq_true rfl) wr_7_74 rfl ?_
                refine G_iload_n 1 dr_cX17_look_85 rfl ?_
                have hm572370 : (γ 9 0) ∈ P571810 := RS_m hT572355 ht571850 (by decide)
                obtain ⟨f572372, he572371, hg572373⟩ := show rk_12 I γ (F572354 (γ 9 0)) from RS_o hT572355 ht571850
                obtain ⟨q572374, hx572376⟩ : ∃ x, x = γ 10 p571813.toInt.toNat := ⟨_, rfl⟩
                have ht572375 : rKd γ q572374 11 := by rw [hx572376]; exact (hg572373 _ (show p571813.toInt.toNat < 40 by omega)).2.1
                refine Gp_aald 5 hm572370 he572371 dr_cX17_look_86 rfl rfl (gB_inr (by omega) (by omega)) ?_
                rw [show f572372 p571813.toNatClampNeg = some q572374 from (hg572373 _ (show p571813.toInt.toNat < 40 by omega)).1.trans (by rw [hx572376])]
                change G _ _ _ _ _ _ _ (.ref q572374 :: _) _ _ _
                have hm572377 : q572374 ∈ P571810 := RS_m hT572355 ht572375 (by decide)
                obtain ⟨f572379, he572378, wf572379⟩ := show rk_11 I (F572354 q572374) from RS_o hT572355 ht572375
                refine Gw_callS (As := [.ref q572374]) (gV_ok D I) (cp_1892_SpillForgeModel_count l hl0 D I P571810 F572354 q572374 f572379 hm572377 he572378) dr_cX17_look_87 ⟨wr_11_12, wr_1_14, wr_11_14, by decide, rfl, (Nat.le_of_ble_eq_true rfl), (Nat.le_of_ble_eq_true rfl)⟩ wr_11_13 (rm_zc pk571823) (rm_zs pk571823) (Nat.le_of_ble_eq_true rfl) (fun r572383 w572384 dc572380 ds572381 hp572382 => ?_) (fun _ _ _ _ _ z => z.elim)
                obtain ⟨o572385, rfl, rfl, hdc, hds⟩ := hp572382
                have bo572385 := gB_any o572385
                change G _ _ _ _ _ _ _ (.int o572385 :: _) _ _ _
                refine G_widen (cs' := ((rPh γ el f - rPh γ0 el0 f) / 18)) (sl' := (rPh γ el f - rPh γ0 el0 f)) (rm_d0 hdc) (rm_d0 hds) ?_
                refine G_goto 99 dr_cX17_look_90 (by decide +kernel) ?_
                have ac572386 : (fI (F572354 q571812) 10).toInt = (fI (F571879 q571812) 10).toInt := by rw [kp572359]
                exact G_iretA dr_cX17_look_99 rfl (show ((rPh γ el f - rPh γ0 el0 f) / 18) ≤ (((387 * B + 6000) - rPh γ0 el0 f) / 18) by omega) (show (rPh γ el f - rPh γ0 el0 f) ≤ ((387 * B + 6000) - rPh γ0 el0 f) by omega) ⟨P571810, F572354, γ, el, o572385, rfl, rfl, hs572358, ⟨by omega, by omega⟩, hB, (by omega), mk572360⟩
            · have r572387 : p572304.toInt ≤ p571813.toInt := gC_nlt hc572331
              refine G_aload_n 0 dr_cX17_look_53 rfl ?_
              refine G_iconst 3 dr_cX17_look_54 (by decide +kernel) ?_
              refine Gw_callV (As := [.int 3]) (gV_ok D I) (ct_571896_SpillForgeModel_no l hl0 D I γ el P571810 F571879 q571812 3 hT571884 htq571812) dr_cX17_look_55 ⟨wr_7_187, wr_1_14, wr_7_190, by decide, rfl, (Nat.le_of_ble_eq_true rfl), (Nat.le_of_ble_eq_true rfl)⟩ wr_7_189 wr_p_73 hm571829 he571882 rfl (rm_zc pk571823) (rm_zs pk571823) (Nat.le_of_ble_eq_true rfl) (fun r572391 w572392 dc572388 ds572389 hp572390 => ?_) (fun _ _ _ _ _ z => z.elim)
              obtain ⟨F572395, rfl, rfl, hT572396, hs572397, hdc, hds, x572393, x572394⟩ := hp572390
              have he572398 : F572395 q571816 = .inr (18, [.ref q572301, .ref q572302, .int p572303, .int p572304]) := (hs572397 q571816 (rT0 htq571816 (by decide)) (rT1 htq571816 (by decide)) (rT2 htq571816 (by decide))).trans he572300
              have hs572399 := rSk_str hs571885 hT572396 hs572397 (by decide) (by decide) (by decide)
              have mk572400 : mKp (F571811 q571812) (F572395 q571812) := mKp_tr mk571883 x572394
              change G _ _ _ _ _ _ _ (.int 0 :: _) _ _ _
              refine G_widen (cs' := ((rPh γ el f - rPh γ0 el0 f) / 18)) (sl' := (rPh γ el f - rPh γ0 el0 f)) (rm_d0 hdc) (rm_d0 hds) ?_
              exact G_iretA dr_cX17_look_58 rfl (show ((rPh γ el f - rPh γ0 el0 f) / 18) ≤ (((387 * B + 6000) - rPh γ0 el0 f) / 18) by omega) (show (rPh γ el f - rPh γ0 el0 f) ≤ ((387 * B + 6000) - rPh γ0 el0 f) by omega) ⟨P571810, F572395, γ, el, 0, rfl, rfl, hs572399, ⟨by omega, by omega⟩, hB, (by have qa0 : Int32.toInt 0 = 0 := (by decide); omega), mk572400⟩
      · have r572401 : 3 < p571814.toInt := gj_nle hc571967 (show Int32.toInt 3 = 3 by decide)
        have bp571814'' : gB p571814 4 2147483647 := ⟨by omega, by omega⟩
        refine G_aload_n 0 dr_cX17_look_27 rfl ?_
        refine G_iconst 2 dr_cX17_look_28 (by decide +kernel) ?_
        refine Gw_callV (As := [.int 2]) (gV_ok D I) (ct_571896_SpillForgeModel_no l hl0 D I γ el P571810 F571879 q571812 2 hT571884 htq571812) dr_cX17_look_29 ⟨wr_7_187, wr_1_14, wr_7_190, by decide, rfl, (Nat.le_of_ble_eq_true rfl), (Nat.le_of_ble_eq_true rfl)⟩ wr_7_189 wr_p_73 hm571829 he571882 rfl (rm_zc pk571823) (rm_zs pk571823) (Nat.le_of_ble_eq_true rfl) (fun r572405 w572406 dc572402 ds572403 hp572404 => ?_) (fun _ _ _ _ _ z => z.elim)
        obtain ⟨F572409, rfl, rfl, hT572410, hs572411, hdc, hds, x572407, x572408⟩ := hp572404
        have hs572412 := rSk_str hs571885 hT572410 hs572411 (by decide) (by decide) (by decide)
        have mk572413 : mKp (F571811 q571812) (F572409 q571812) := mKp_tr mk571883 x572408
        change G _ _ _ _ _ _ _ (.int 0 :: _) _ _ _
        refine G_widen (cs' := ((rPh γ el f - rPh γ0 el0 f) / 18)) (sl' := (rPh γ el f - rPh γ0 el0 f)) (rm_d0 hdc) (rm_d0 hds) ?_
        exact G_iretA dr_cX17_look_32 rfl (show ((rPh γ el f - rPh γ0 el0 f) / 18) ≤ (((387 * B + 6000) - rPh γ0 el0 f) / 18) by omega) (show (rPh γ el f - rPh γ0 el0 f) ≤ ((387 * B + 6000) - rPh γ0 el0 f) by omega) ⟨P571810, F572409, γ, el, 0, rfl, rfl, hs572412, ⟨by omega, by omega⟩, hB, (by have qa0 : Int32.toInt 0 = 0 := (by decide); omega), mk572413⟩
  · have r572414 : p571833.toInt = 0 := gj_eq hc571888 (show Int32.toInt 0 = 0 by decide)
    have bp571833' : gB p571833 0 0 := gB_t0 r572414
    refine G_aload_n 0 dr_cX17_look_12 rfl ?_
    refine G_iconst 1 dr_cX17_look_13 (by decide +kernel) ?_
    refine Gw_callV (As := [.int 1]) (gV_ok D I) (ct_571896_SpillForgeModel_no l hl0 D I γ el P571810 F571879 q571812 1 hT571884 htq571812) dr_cX17_look_14 ⟨wr_7_187, wr_1_14, wr_7_190, by decide, rfl, (Nat.le_of_ble_eq_true rfl), (Nat.le_of_ble_eq_true rfl)⟩ wr_7_189 wr_p_73 hm571829 he571882 rfl (rm_zc pk571823) (rm_zs pk571823) (Nat.le_of_ble_eq_true rfl) (fun r572418 w572419 dc572415 ds572416 hp572417 => ?_) (fun _ _ _ _ _ z => z.elim)
    obtain ⟨F572422, rfl, rfl, hT572423, hs572424, hdc, hds, x572420, x572421⟩ := hp572417
    have hs572425 := rSk_str hs571885 hT572423 hs572424 (by decide) (by decide) (by decide)
    have mk572426 : mKp (F571811 q571812) (F572422 q571812) := mKp_tr mk571883 x572421
    change G _ _ _ _ _ _ _ (.int 0 :: _) _ _ _
    refine G_widen (cs' := ((rPh γ el f - rPh γ0 el0 f) / 18)) (sl' := (rPh γ el f - rPh γ0 el0 f)) (rm_d0 hdc) (rm_d0 hds) ?_
    exact G_iretA dr_cX17_look_17 rfl (show ((rPh γ el f - rPh γ0 el0 f) / 18) ≤ (((387 * B + 6000) - rPh γ0 el0 f) / 18) by omega) (show (rPh γ el f - rPh γ0 el0 f) ≤ ((387 * B + 6000) - rPh γ0 el0 f) by omega) ⟨P571810, F572422, γ, el, 0, rfl, rfl, hs572425, ⟨by omega, by omega⟩, hB, (by have qa0 : Int32.toInt 0 = 0 := (by decide); omega), mk572426⟩
