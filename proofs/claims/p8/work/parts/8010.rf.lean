theorem dr_cX17_word__0 : decode cX17_word_ 0 = .ok (.aload_n 0, 1) := by decide +kernel
theorem dr_cX17_word__1 : decode cX17_word_ 1 = .ok (.iconst 0, 1) := by decide +kernel
theorem dr_cX17_word__2 : decode cX17_word_ 2 = .ok (.putfield 380, 3) := by decide +kernel
theorem dr_cX17_word__5 : decode cX17_word_ 5 = .ok (.iload_n 1, 1) := by decide +kernel
theorem dr_cX17_word__6 : decode cX17_word_ 6 = .ok (.ifCond .lt 11, 3) := by decide +kernel
theorem dr_cX17_word__17 : decode cX17_word_ 17 = .ok (.aload_n 0, 1) := by decide +kernel
theorem dr_cX17_word__18 : decode cX17_word_ 18 = .ok (.iconst 1, 1) := by decide +kernel
theorem dr_cX17_word__19 : decode cX17_word_ 19 = .ok (.invokevirtual 385, 3) := by decide +kernel
theorem dr_cX17_word__22 : decode cX17_word_ 22 = .ok (.i2l, 1) := by decide +kernel
theorem dr_cX17_word__23 : decode cX17_word_ 23 = .ok (.lreturn, 1) := by decide +kernel
theorem dr_cX17_word__9 : decode cX17_word_ 9 = .ok (.iload_n 1, 1) := by decide +kernel
theorem dr_cX17_word__10 : decode cX17_word_ 10 = .ok (.aload_n 0, 1) := by decide +kernel
theorem dr_cX17_word__11 : decode cX17_word_ 11 = .ok (.getfield 426, 3) := by decide +kernel
theorem dr_cX17_word__14 : decode cX17_word_ 14 = .ok (.if_icmp .lt 10, 3) := by decide +kernel
theorem dr_cX17_word__24 : decode cX17_word_ 24 = .ok (.lconst 0, 1) := by decide +kernel
theorem dr_cX17_word__25 : decode cX17_word_ 25 = .ok (.lstore_n 2, 1) := by decide +kernel
theorem dr_cX17_word__26 : decode cX17_word_ 26 = .ok (.iconst 0, 1) := by decide +kernel
theorem dr_cX17_word__27 : decode cX17_word_ 27 = .ok (.istore 4, 2) := by decide +kernel
theorem dr_cX17_word__29 : decode cX17_word_ 29 = .ok (.iload 4, 2) := by decide +kernel
theorem dr_cX17_word__31 : decode cX17_word_ 31 = .ok (.bipush 8, 2) := by decide +kernel
theorem dr_cX17_word__33 : decode cX17_word_ 33 = .ok (.if_icmp .ge 44, 3) := by decide +kernel
theorem dr_cX17_word__77 : decode cX17_word_ 77 = .ok (.lload_n 2, 1) := by decide +kernel
theorem dr_cX17_word__78 : decode cX17_word_ 78 = .ok (.lreturn, 1) := by decide +kernel
theorem dr_cX17_word__36 : decode cX17_word_ 36 = .ok (.lload_n 2, 1) := by decide +kernel
theorem dr_cX17_word__37 : decode cX17_word_ 37 = .ok (.bipush 8, 2) := by decide +kernel
theorem dr_cX17_word__39 : decode cX17_word_ 39 = .ok (.lshl, 1) := by decide +kernel
theorem dr_cX17_word__40 : decode cX17_word_ 40 = .ok (.iload_n 1, 1) := by decide +kernel
theorem dr_cX17_word__41 : decode cX17_word_ 41 = .ok (.iload 4, 2) := by decide +kernel
theorem dr_cX17_word__43 : decode cX17_word_ 43 = .ok (.iadd, 1) := by decide +kernel
theorem dr_cX17_word__44 : decode cX17_word_ 44 = .ok (.aload_n 0, 1) := by decide +kernel
theorem dr_cX17_word__45 : decode cX17_word_ 45 = .ok (.getfield 426, 3) := by decide +kernel
theorem dr_cX17_word__48 : decode cX17_word_ 48 = .ok (.if_icmp .ge 19, 3) := by decide +kernel
theorem dr_cX17_word__67 : decode cX17_word_ 67 = .ok (.iconst 0, 1) := by decide +kernel
theorem dr_cX17_word__68 : decode cX17_word_ 68 = .ok (.i2l, 1) := by decide +kernel
theorem dr_cX17_word__69 : decode cX17_word_ 69 = .ok (.lor, 1) := by decide +kernel
theorem dr_cX17_word__70 : decode cX17_word_ 70 = .ok (.lstore_n 2, 1) := by decide +kernel
theorem dr_cX17_word__71 : decode cX17_word_ 71 = .ok (.iinc 4 1, 3) := by decide +kernel
theorem dr_cX17_word__74 : decode cX17_word_ 74 = .ok (.goto (-45), 3) := by decide +kernel
theorem dr_cX17_word__51 : decode cX17_word_ 51 = .ok (.aload_n 0, 1) := by decide +kernel
theorem dr_cX17_word__52 : decode cX17_word_ 52 = .ok (.getfield 378, 3) := by decide +kernel
theorem wr_7_109 : (Jvm.Cond.fieldLink "SpillForgeModel" (378 : Nat) "SpillForgeModel" "result" "[B") ∈ gw := gw_7 109 rfl rfl
theorem dr_cX17_word__55 : decode cX17_word_ 55 = .ok (.iload_n 1, 1) := by decide +kernel
theorem dr_cX17_word__56 : decode cX17_word_ 56 = .ok (.iload 4, 2) := by decide +kernel
theorem dr_cX17_word__58 : decode cX17_word_ 58 = .ok (.iadd, 1) := by decide +kernel
theorem dr_cX17_word__59 : decode cX17_word_ 59 = .ok (.baload, 1) := by decide +kernel
theorem dr_cX17_word__60 : decode cX17_word_ 60 = .ok (.sipush 255, 3) := by decide +kernel
theorem dr_cX17_word__63 : decode cX17_word_ 63 = .ok (.iand, 1) := by decide +kernel
theorem dr_cX17_word__64 : decode cX17_word_ 64 = .ok (.goto 4, 3) := by decide +kernel
theorem dr_cX17_look_0 : decode cX17_look 0 = .ok (.aload_n 0, 1) := by decide +kernel
theorem dr_cX17_look_1 : decode cX17_look 1 = .ok (.iconst 0, 1) := by decide +kernel
theorem dr_cX17_look_2 : decode cX17_look 2 = .ok (.putfield 380, 3) := by decide +kernel
theorem dr_cX17_look_5 : decode cX17_look 5 = .ok (.aload_n 0, 1) := by decide +kernel
theorem dr_cX17_look_6 : decode cX17_look 6 = .ok (.getfield 414, 3) := by decide +kernel
theorem dr_cX17_look_9 : decode cX17_look 9 = .ok (.ifCond .ne 9, 3) := by decide +kernel
theorem dr_cX17_look_18 : decode cX17_look 18 = .ok (.iload_n 2, 1) := by decide +kernel
theorem dr_cX17_look_19 : decode cX17_look 19 = .ok (.ifCond .lt 8, 3) := by decide +kernel
theorem dr_cX17_look_27 : decode cX17_look 27 = .ok (.aload_n 0, 1) := by decide +kernel
theorem dr_cX17_look_28 : decode cX17_look 28 = .ok (.iconst 2, 1) := by decide +kernel
theorem dr_cX17_look_29 : decode cX17_look 29 = .ok (.invokevirtual 385, 3) := by decide +kernel
theorem dr_cX17_look_32 : decode cX17_look 32 = .ok (.ireturn, 1) := by decide +kernel
theorem dr_cX17_look_22 : decode cX17_look 22 = .ok (.iload_n 2, 1) := by decide +kernel
theorem dr_cX17_look_23 : decode cX17_look 23 = .ok (.iconst 3, 1) := by decide +kernel
theorem dr_cX17_look_24 : decode cX17_look 24 = .ok (.if_icmp .le 9, 3) := by decide +kernel
theorem dr_cX17_look_33 : decode cX17_look 33 = .ok (.iload_n 2, 1) := by decide +kernel
theorem dr_cX17_look_34 : decode cX17_look 34 = .ok (.iconst 1, 1) := by decide +kernel
theorem dr_cX17_look_35 : decode cX17_look 35 = .ok (.if_icmp .le 65, 3) := by decide +kernel
theorem dr_cX17_look_100 : decode cX17_look 100 = .ok (.aload_n 0, 1) := by decide +kernel
theorem dr_cX17_look_101 : decode cX17_look 101 = .ok (.aload_n 0, 1) := by decide +kernel
theorem dr_cX17_look_102 : decode cX17_look 102 = .ok (.getfield 361, 3) := by decide +kernel
theorem dr_cX17_look_105 : decode cX17_look 105 = .ok (.iconst 0, 1) := by decide +kernel
theorem dr_cX17_look_106 : decode cX17_look 106 = .ok (.invokevirtual 243, 3) := by decide +kernel
theorem dr_cX17_look_109 : decode cX17_look 109 = .ok (.iload_n 1, 1) := by decide +kernel
theorem dr_cX17_look_110 : decode cX17_look 110 = .ok (.ifCond .lt 19, 3) := by decide +kernel
theorem dr_cX17_look_129 : decode cX17_look 129 = .ok (.aload_n 0, 1) := by decide +kernel
theorem dr_cX17_look_130 : decode cX17_look 130 = .ok (.iconst 3, 1) := by decide +kernel
theorem dr_cX17_look_131 : decode cX17_look 131 = .ok (.invokevirtual 385, 3) := by decide +kernel
theorem dr_cX17_look_134 : decode cX17_look 134 = .ok (.ireturn, 1) := by decide +kernel
theorem dr_cX17_look_113 : decode cX17_look 113 = .ok (.iload_n 1, 1) := by decide +kernel
theorem dr_cX17_look_114 : decode cX17_look 114 = .ok (.sipush 2000, 3) := by decide +kernel
theorem dr_cX17_look_117 : decode cX17_look 117 = .ok (.if_icmp .ge 12, 3) := by decide +kernel
theorem dr_cX17_look_120 : decode cX17_look 120 = .ok (.aload_n 0, 1) := by decide +kernel
theorem dr_cX17_look_121 : decode cX17_look 121 = .ok (.getfield 131, 3) := by decide +kernel
theorem dr_cX17_look_124 : decode cX17_look 124 = .ok (.iload_n 1, 1) := by decide +kernel
theorem dr_cX17_look_125 : decode cX17_look 125 = .ok (.baload, 1) := by decide +kernel
theorem dr_cX17_look_126 : decode cX17_look 126 = .ok (.ifCond .ne 9, 3) := by decide +kernel
theorem dr_cX17_look_135 : decode cX17_look 135 = .ok (.aload_n 0, 1) := by decide +kernel
theorem dr_cX17_look_136 : decode cX17_look 136 = .ok (.getfield 368, 3) := by decide +kernel
theorem wr_7_82 : (Jvm.Cond.fieldLink "SpillForgeModel" (368 : Nat) "SpillForgeModel" "spare" "LSpillForgeModel$Code;") ∈ gw := gw_7 82 rfl rfl
theorem dr_cX17_look_139 : decode cX17_look 139 = .ok (.aload_n 0, 1) := by decide +kernel
theorem dr_cX17_look_140 : decode cX17_look 140 = .ok (.getfield 361, 3) := by decide +kernel
theorem dr_cX17_look_143 : decode cX17_look 143 = .ok (.invokevirtual 419, 3) := by decide +kernel
theorem wr_10_132 : (Jvm.Cond.methodLink "SpillForgeModel" (419 : Nat) ({ cls := "SpillForgeModel$Code", name := "copy", desc := "(LSpillForgeModel$Code;)V" } : Jvm.MethodName)) ∈ gw := gw_10 132 rfl rfl
theorem wr_10_135 : (Jvm.Cond.code ({ cls := "SpillForgeModel$Code", name := "copy", desc := "(LSpillForgeModel$Code;)V" } : Jvm.MethodName) prog_16_method_9_code (7 : Nat) (Option.none : Option Jvm.ClassFile.FieldType)) ∈ gw := gw_10 135 rfl rfl
theorem wr_10_133 : (Jvm.Cond.instanceMethod ({ cls := "SpillForgeModel$Code", name := "copy", desc := "(LSpillForgeModel$Code;)V" } : Jvm.MethodName)) ∈ gw := gw_10 133 rfl rfl
theorem wr_10_134 : (Jvm.Cond.selects "SpillForgeModel$Code" ({ cls := "SpillForgeModel$Code", name := "copy", desc := "(LSpillForgeModel$Code;)V" } : Jvm.MethodName) ({ cls := "SpillForgeModel$Code", name := "copy", desc := "(LSpillForgeModel$Code;)V" } : Jvm.MethodName)) ∈ gw := gw_10 134 rfl rfl
theorem dr_cX17_look_146 : decode cX17_look 146 = .ok (.aload_n 0, 1) := by decide +kernel
theorem dr_cX17_look_147 : decode cX17_look 147 = .ok (.aload_n 0, 1) := by decide +kernel
theorem dr_cX17_look_148 : decode cX17_look 148 = .ok (.getfield 368, 3) := by decide +kernel
theorem dr_cX17_look_151 : decode cX17_look 151 = .ok (.invokevirtual 240, 3) := by decide +kernel
theorem wr_10_152 : (Jvm.Cond.methodLink "SpillForgeModel" (240 : Nat) ({ cls := "SpillForgeModel", name := "zeros", desc := "(LSpillForgeModel$Code;)V" } : Jvm.MethodName)) ∈ gw := gw_10 152 rfl rfl
theorem wr_10_155 : (Jvm.Cond.code ({ cls := "SpillForgeModel", name := "zeros", desc := "(LSpillForgeModel$Code;)V" } : Jvm.MethodName) prog_14_method_16_code (5 : Nat) (Option.none : Option Jvm.ClassFile.FieldType)) ∈ gw := gw_10 155 rfl rfl
theorem wr_10_154 : (Jvm.Cond.instanceMethod ({ cls := "SpillForgeModel", name := "zeros", desc := "(LSpillForgeModel$Code;)V" } : Jvm.MethodName)) ∈ gw := gw_10 154 rfl rfl
theorem wr_p_93 : Cond.selects "SpillForgeModel" ⟨"SpillForgeModel", "zeros", "(LSpillForgeModel$Code;)V"⟩ ⟨"SpillForgeModel", "zeros", "(LSpillForgeModel$Code;)V"⟩ ∈ gw := gw_p _ 93 rfl rfl rfl
theorem dr_cX17_look_154 : decode cX17_look 154 = .ok (.aload_n 0, 1) := by decide +kernel
theorem dr_cX17_look_155 : decode cX17_look 155 = .ok (.aload_n 0, 1) := by decide +kernel
theorem dr_cX17_look_156 : decode cX17_look 156 = .ok (.getfield 368, 3) := by decide +kernel
theorem dr_cX17_look_159 : decode cX17_look 159 = .ok (.iconst 0, 1) := by decide +kernel
theorem dr_cX17_look_160 : decode cX17_look 160 = .ok (.invokevirtual 243, 3) := by decide +kernel
theorem dr_cX17_look_163 : decode cX17_look 163 = .ok (.aload_n 0, 1) := by decide +kernel
theorem dr_cX17_look_164 : decode cX17_look 164 = .ok (.aload_n 0, 1) := by decide +kernel
theorem dr_cX17_look_165 : decode cX17_look 165 = .ok (.getfield 368, 3) := by decide +kernel
theorem dr_cX17_look_168 : decode cX17_look 168 = .ok (.invokevirtual 250, 3) := by decide +kernel
theorem wr_11_33 : (Jvm.Cond.methodLink "SpillForgeModel" (250 : Nat) ({ cls := "SpillForgeModel", name := "weigh", desc := "(LSpillForgeModel$Code;)V" } : Jvm.MethodName)) ∈ gw := gw_11 33 rfl rfl
theorem wr_11_36 : (Jvm.Cond.code ({ cls := "SpillForgeModel", name := "weigh", desc := "(LSpillForgeModel$Code;)V" } : Jvm.MethodName) prog_14_method_15_code (7 : Nat) (Option.none : Option Jvm.ClassFile.FieldType)) ∈ gw := gw_11 36 rfl rfl
theorem wr_11_35 : (Jvm.Cond.instanceMethod ({ cls := "SpillForgeModel", name := "weigh", desc := "(LSpillForgeModel$Code;)V" } : Jvm.MethodName)) ∈ gw := gw_11 35 rfl rfl
theorem wr_p_104 : Cond.selects "SpillForgeModel" ⟨"SpillForgeModel", "weigh", "(LSpillForgeModel$Code;)V"⟩ ⟨"SpillForgeModel", "weigh", "(LSpillForgeModel$Code;)V"⟩ ∈ gw := gw_p _ 104 rfl rfl rfl
theorem dr_cX17_look_171 : decode cX17_look 171 = .ok (.iload_n 2, 1) := by decide +kernel
theorem dr_cX17_look_172 : decode cX17_look 172 = .ok (.ifCond .ne 12, 3) := by decide +kernel
theorem dr_cX17_look_184 : decode cX17_look 184 = .ok (.aload_n 0, 1) := by decide +kernel
theorem dr_cX17_look_185 : decode cX17_look 185 = .ok (.getfield 135, 3) := by decide +kernel
theorem dr_cX17_look_188 : decode cX17_look 188 = .ok (.iload_n 1, 1) := by decide +kernel
theorem dr_cX17_look_189 : decode cX17_look 189 = .ok (.aaload, 1) := by decide +kernel
theorem dr_cX17_look_190 : decode cX17_look 190 = .ok (.invokestatic 202, 3) := by decide +kernel
theorem dr_cX17_look_193 : decode cX17_look 193 = .ok (.ireturn, 1) := by decide +kernel
theorem dr_cX17_look_175 : decode cX17_look 175 = .ok (.aload_n 0, 1) := by decide +kernel
theorem dr_cX17_look_176 : decode cX17_look 176 = .ok (.getfield 174, 3) := by decide +kernel
theorem dr_cX17_look_179 : decode cX17_look 179 = .ok (.iload_n 1, 1) := by decide +kernel
theorem dr_cX17_look_180 : decode cX17_look 180 = .ok (.iaload, 1) := by decide +kernel
theorem dr_cX17_look_181 : decode cX17_look 181 = .ok (.goto 12, 3) := by decide +kernel
theorem dr_cX17_look_38 : decode cX17_look 38 = .ok (.iload_n 1, 1) := by decide +kernel
theorem dr_cX17_look_39 : decode cX17_look 39 = .ok (.ifCond .lt 14, 3) := by decide +kernel
theorem dr_cX17_look_53 : decode cX17_look 53 = .ok (.aload_n 0, 1) := by decide +kernel
theorem dr_cX17_look_54 : decode cX17_look 54 = .ok (.iconst 3, 1) := by decide +kernel
theorem dr_cX17_look_55 : decode cX17_look 55 = .ok (.invokevirtual 385, 3) := by decide +kernel
theorem dr_cX17_look_58 : decode cX17_look 58 = .ok (.ireturn, 1) := by decide +kernel
theorem dr_cX17_look_42 : decode cX17_look 42 = .ok (.iload_n 1, 1) := by decide +kernel
theorem dr_cX17_look_43 : decode cX17_look 43 = .ok (.aload_n 0, 1) := by decide +kernel
theorem dr_cX17_look_44 : decode cX17_look 44 = .ok (.getfield 361, 3) := by decide +kernel
theorem dr_cX17_look_47 : decode cX17_look 47 = .ok (.invokevirtual 96, 3) := by decide +kernel
theorem dr_cX17_look_50 : decode cX17_look 50 = .ok (.if_icmp .lt 9, 3) := by decide +kernel
theorem dr_cX17_look_59 : decode cX17_look 59 = .ok (.aload_n 0, 1) := by decide +kernel
theorem dr_cX17_look_60 : decode cX17_look 60 = .ok (.aload_n 0, 1) := by decide +kernel
theorem dr_cX17_look_61 : decode cX17_look 61 = .ok (.getfield 361, 3) := by decide +kernel
theorem dr_cX17_look_64 : decode cX17_look 64 = .ok (.iconst 0, 1) := by decide +kernel
theorem dr_cX17_look_65 : decode cX17_look 65 = .ok (.invokevirtual 127, 3) := by decide +kernel
theorem dr_cX17_look_68 : decode cX17_look 68 = .ok (.aload_n 0, 1) := by decide +kernel
theorem dr_cX17_look_69 : decode cX17_look 69 = .ok (.aload_n 0, 1) := by decide +kernel
theorem dr_cX17_look_70 : decode cX17_look 70 = .ok (.getfield 361, 3) := by decide +kernel
theorem dr_cX17_look_73 : decode cX17_look 73 = .ok (.invokevirtual 170, 3) := by decide +kernel
theorem dr_cX17_look_76 : decode cX17_look 76 = .ok (.iload_n 2, 1) := by decide +kernel
theorem dr_cX17_look_77 : decode cX17_look 77 = .ok (.iconst 2, 1) := by decide +kernel
theorem dr_cX17_look_78 : decode cX17_look 78 = .ok (.if_icmp .ne 15, 3) := by decide +kernel
theorem dr_cX17_look_93 : decode cX17_look 93 = .ok (.aload_n 0, 1) := by decide +kernel
theorem dr_cX17_look_94 : decode cX17_look 94 = .ok (.getfield 152, 3) := by decide +kernel
theorem dr_cX17_look_97 : decode cX17_look 97 = .ok (.iload_n 1, 1) := by decide +kernel
theorem dr_cX17_look_98 : decode cX17_look 98 = .ok (.iaload, 1) := by decide +kernel
theorem dr_cX17_look_99 : decode cX17_look 99 = .ok (.ireturn, 1) := by decide +kernel
theorem dr_cX17_look_81 : decode cX17_look 81 = .ok (.aload_n 0, 1) := by decide +kernel
theorem dr_cX17_look_82 : decode cX17_look 82 = .ok (.getfield 88, 3) := by decide +kernel
theorem dr_cX17_look_85 : decode cX17_look 85 = .ok (.iload_n 1, 1) := by decide +kernel
theorem dr_cX17_look_86 : decode cX17_look 86 = .ok (.aaload, 1) := by decide +kernel
theorem dr_cX17_look_87 : decode cX17_look 87 = .ok (.invokestatic 202, 3) := by decide +kernel
theorem dr_cX17_look_90 : decode cX17_look 90 = .ok (.goto 9, 3) := by decide +kernel
theorem dr_cX17_look_12 : decode cX17_look 12 = .ok (.aload_n 0, 1) := by decide +kernel
theorem dr_cX17_look_13 : decode cX17_look 13 = .ok (.iconst 1, 1) := by decide +kernel
theorem dr_cX17_look_14 : decode cX17_look 14 = .ok (.invokevirtual 385, 3) := by decide +kernel
theorem dr_cX17_look_17 : decode cX17_look 17 = .ok (.ireturn, 1) := by decide +kernel
abbrev ky_588758_SpillForgeModel_word : gKey := (cX17_word_, 5, "SpillForgeModel", (some FieldType.long), [], "word", fun _ _ => True)
def pt_588758_SpillForgeModel_word (D : va_G) (I : FieldType → ClassId) (γ el : Nat → Nat → Nat) (P588754 : List Nat) (F588755 : Nat → va_E) (q588756 : Nat) (p588757 : Int32) : Option Value → va_W → Nat → Nat → Prop := fun r w dc ds => ∃ (F589114 : Nat → va_E) (ol589113 : Int64), r = some (.long ol589113) ∧ w = va_pl P588754 F589114 ∧ RS D I P588754 F589114 γ el ∧ rStr γ [] F588755 F589114 ∧ dc ≤ 0 ∧ ds ≤ 0 ∧ (fI (F589114 q588756) 9).toInt = (fI (F588755 q588756) 9).toInt ∧ (fI (F589114 q588756) 10).toInt = (fI (F588755 q588756) 10).toInt ∧ (fI (F589114 q588756) 32).toInt = (fI (F588755 q588756) 32).toInt
set_option maxRecDepth 100000 in
set_option maxHeartbeats 4000000 in
theorem ct_588758_SpillForgeModel_word (l : Launch) (hl0 : l.stackTraces = false) (D : va_G) (I : FieldType → ClassId) (γ el : Nat → Nat → Nat) (P588754 : List Nat) (F588755 : Nat → va_E) (q588756 : Nat) (p588757 : Int32) (hT : RS D I P588754 F588755 γ el) (htq588756 : rKd γ q588756 10) : CtA (gV D I) l yX17_word_ cX17_word_ 5 (some FieldType.long) 1 21 0 0 [.ref q588756, .int p588757] (va_pl P588754 F588755) (pt_588758_SpillForgeModel_word D I γ el P588754 F588755 q588756 p588757) gNA := by
  refine CtA_of hl0 (by decide) (Nat.le_of_ble_eq_true rfl) ?_
  have bp588757 := gB_any p588757
  have hm588759 : q588756 ∈ P588754 := RS_m hT htq588756 (by decide)
  refine rk10_e (show rk_10 γ (F588755 q588756) from RS_o hT htq588756) (fun q588761 q588762 p588763 p588764 p588765 p588766 p588767 p588768 p588769 p588770 p588771 p588772 p588773 p588774 p588775 p588776 p588777 he588760 hB588804 ht588778 ht588779 ht588780 ht588781 ht588782 ht588783 ht588784 ht588785 ht588786 ht588787 ht588788 ht588789 ht588790 ht588791 ht588792 ht588793 ht588794 ht588795 ht588796 ht588797 ht588798 ht588799 ht588800 ht588801 hB588805 => ?_)
  have ac588806 : (fI (F588755 q588756) 9).toInt = p588763.toInt := by rw [he588760]; rfl
  have bp588763 : gB p588763 0 1 := (hB588804.1)
  have ac588807 : (fI (F588755 q588756) 10).toInt = p588764.toInt := by rw [he588760]; rfl
  have bp588764 : gB p588764 0 1 := (hB588804.2.1)
  have ac588808 : (fI (F588755 q588756) 32).toInt = p588775.toInt := by rw [he588760]; rfl
  have bp588775 : gB p588775 0 8192 := (hB588804.2.2.2.2.2.2.2.1)
  have fq588809 : γ 6 (γ 1 (γ 9 6)) = γ 6 0 := by rw [show γ 1 (γ 9 6) = 0 from ht588799]
  have fq588810 : γ 6 (γ 1 (γ 9 7)) = γ 6 1 := by rw [show γ 1 (γ 9 7) = 1 from ht588800]
  have fq588811 : γ 6 (γ 1 (γ 9 8)) = γ 6 2 := by rw [show γ 1 (γ 9 8) = 2 from ht588801]
  have r588812 : p588777.toInt ≤ γ 12 q588762 := by have z := hB588805; unfold rM2 at z; exact z.2.2
  refine G_aload_n 0 dr_cX17_word__0 rfl ?_
  refine G_iconst 0 dr_cX17_word__1 (by decide +kernel) ?_
  refine Gp_put 30 hm588759 he588760 dr_cX17_word__2 (gk_X17 D I) (Nat.le_of_ble_eq_true rfl) wr_7_104 rfl rfl rfl (Nat.le_of_ble_eq_true rfl) (fun F588813 e588814 n588815 => ?_)
  have he588816 : F588813 q588756 = .inr (22, [.ref (γ 9 0), .ref (γ 9 1), .ref (γ 9 2), .ref (γ 9 3), .ref (γ 9 4), .ref (γ 9 5), .ref (γ 9 6), .ref (γ 9 7), .ref (γ 9 8), .int p588763, .int p588764, .int p588765, .int p588766, .int p588767, .int p588768, .ref (γ 9 15), .ref (γ 9 16), .ref (γ 9 17), .ref (γ 9 18), .ref (γ 9 19), .ref (γ 9 20), .ref (γ 9 21), .ref (γ 9 22), .int p588769, .int p588770, .int p588771, .int p588772, .int p588773, .ref q588761, .ref (γ 9 29), .int 0, .ref (γ 9 31), .int p588775, .int p588776, .int p588777, .ref q588762]) := e588814
  have hs588817 : rStr γ [] F588755 F588813 := rStr_put (rStr_rf (γ := γ) (W := []) (F := F588755)) n588815 htq588756 (by decide)
  refine G_iload_n 1 dr_cX17_word__5 rfl ?_
  refine G_if_lt 17 dr_cX17_word__6 (by decide +kernel) (fun hc588818 => ?_) (fun hc588818 => ?_)
  · have r588819 : p588757.toInt < 0 := gj_lt hc588818 (show Int32.toInt 0 = 0 by decide)
    have bp588757' : gB p588757 (-2147483648) (-1) := ⟨by omega, by omega⟩
    refine G_aload_n 0 dr_cX17_word__17 rfl ?_
    refine G_iconst 1 dr_cX17_word__18 (by decide +kernel) ?_
    have hT588820 : RS D I P588754 F588813 γ el := RS_set hT n588815 htq588756 (by decide) ⟨q588761, q588762, p588763, p588764, p588765, p588766, p588767, p588768, p588769, p588770, p588771, p588772, p588773, 0, p588775, p588776, p588777, he588816, ⟨bp588763, bp588764, (hB588804.2.2.1), (hB588804.2.2.2.1), (hB588804.2.2.2.2.1), (hB588804.2.2.2.2.2.1), (hB588804.2.2.2.2.2.2.1), bp588775, (hB588804.2.2.2.2.2.2.2.2)⟩, ht588778, ht588779, ht588780, ht588781, ht588782, ht588783, ht588784, ht588785, ht588786, ht588787, ht588788, ht588789, ht588790, ht588791, ht588792, ht588793, ht588794, ht588795, ht588796, ht588797, ht588798, ht588799, ht588800, ht588801, hB588805⟩
    have ac588821 : (fI (F588813 q588756) 9).toInt = p588763.toInt := by rw [he588816]; rfl
    have ac588822 : (fI (F588813 q588756) 10).toInt = p588764.toInt := by rw [he588816]; rfl
    have ac588823 : (fI (F588813 q588756) 32).toInt = p588775.toInt := by rw [he588816]; rfl
    refine Gw_callV (As := [.int 1]) (gV_ok D I) (ct_580660_SpillForgeModel_no l hl0 D I γ el P588754 F588813 q588756 1 hT588820 htq588756) dr_cX17_word__19 ⟨wr_7_191, wr_1_14, wr_7_194, by decide, rfl, (Nat.le_of_ble_eq_true rfl), (Nat.le_of_ble_eq_true rfl)⟩ wr_7_193 wr_p_73 hm588759 he588816 rfl (show 0 + 0 ≤ 0 by first | omega | decide) (show 0 + 0 ≤ 0 by first | omega | decide) (Nat.le_of_ble_eq_true rfl) (fun r588827 w588828 dc588824 ds588825 hp588826 => ?_) (fun _ _ _ _ _ z => z.elim)
    obtain ⟨F588834, rfl, rfl, hT588835, hs588836, hdc, hds, x588829, x588830, x588831, x588832, ht588833⟩ := hp588826
    have hs588837 : rStr γ [] F588755 F588834 := rStr_tr hs588817 hs588836
    rw [show Int32.toInt 1 = 1 from by decide] at x588832
    change G _ _ _ _ _ _ _ (.int 0 :: _) _ _ _
    refine G_widen (cs' := 0) (sl' := 0) (by omega) (by omega) ?_
    refine G_i2l dr_cX17_word__22 (G_namL fun u588838 hu588838 => ?_)
    have hm588839 : q588756 ∈ P588754 := RS_m hT588835 htq588756 (by decide)
    refine rk10_e (show rk_10 γ (F588834 q588756) from RS_o hT588835 htq588756) (fun q588841 q588842 p588843 p588844 p588845 p588846 p588847 p588848 p588849 p588850 p588851 p588852 p588853 p588854 p588855 p588856 p588857 he588840 hB588884 ht588858 ht588859 ht588860 ht588861 ht588862 ht588863 ht588864 ht588865 ht588866 ht588867 ht588868 ht588869 ht588870 ht588871 ht588872 ht588873 ht588874 ht588875 ht588876 ht588877 ht588878 ht588879 ht588880 ht588881 hB588885 => ?_)
    have ac588886 : (fI (F588834 q588756) 9).toInt = p588843.toInt := by rw [he588840]; rfl
    have bp588843 : gB p588843 0 1 := (hB588884.1)
    have ac588887 : (fI (F588834 q588756) 10).toInt = p588844.toInt := by rw [he588840]; rfl
    have bp588844 : gB p588844 0 1 := (hB588884.2.1)
    have ac588888 : (fI (F588834 q588756) 32).toInt = p588855.toInt := by rw [he588840]; rfl
    have bp588855 : gB p588855 0 8192 := (hB588884.2.2.2.2.2.2.2.1)
    have ac588889 : (fI (F588834 q588756) 9).toInt = p588843.toInt := by rw [he588840]; rfl
    have ac588890 : (fI (F588834 q588756) 10).toInt = p588844.toInt := by rw [he588840]; rfl
    have ac588891 : (fI (F588834 q588756) 32).toInt = p588855.toInt := by rw [he588840]; rfl
    exact G_lretA dr_cX17_word__23 rfl (Nat.le_of_ble_eq_true rfl) (Nat.le_of_ble_eq_true rfl) ⟨F588834, u588838, rfl, rfl, hT588835, hs588837, (Nat.le_of_ble_eq_true rfl), (Nat.le_of_ble_eq_true rfl), (by omega), (by omega), (by omega)⟩
  · have r588892 : 0 ≤ p588757.toInt := gj_nlt hc588818 (show Int32.toInt 0 = 0 by decide)
    have bp588757' : gB p588757 0 2147483647 := ⟨by omega, by omega⟩
    refine G_iload_n 1 dr_cX17_word__9 rfl ?_
    refine G_aload_n 0 dr_cX17_word__10 rfl ?_
    refine Gp_get 34 hm588759 he588816 dr_cX17_word__11 (gk_X17 D I) (Nat.le_of_ble_eq_true rfl) wr_7_108 rfl ?_
    have bp588777 : gB p588777 0 16777216 := (hB588804.2.2.2.2.2.2.2.2)
    refine G_icmp_lt 24 dr_cX17_word__14 (by decide +kernel) (fun hc588893 => ?_) (fun hc588893 => ?_)
    · have r588894 : p588757.toInt < p588777.toInt := gC_lt hc588893
      have bp588757'' : gB p588757 0 16777215 := ⟨by omega, by omega⟩
      have bp588777' : gB p588777 1 16777216 := ⟨by omega, by omega⟩
      refine G_lconst 0 dr_cX17_word__24 rfl ?_
      refine G_lstore_n (L' := [(2, .long 0), (0, .ref q588756), (1, .int p588757)]) dr_cX17_word__25 (Nat.le_of_ble_eq_true rfl) rfl ?_
      refine G_iconst 0 dr_cX17_word__26 (by decide +kernel) ?_
      refine G_istore (L' := [(4, .int 0), (2, .long 0), (0, .ref q588756), (1, .int p588757)]) dr_cX17_word__27 (Nat.le_of_ble_eq_true rfl) rfl ?_
      have hT588895 : RS D I P588754 F588813 γ el := RS_set hT n588815 htq588756 (by decide) ⟨q588761, q588762, p588763, p588764, p588765, p588766, p588767, p588768, p588769, p588770, p588771, p588772, p588773, 0, p588775, p588776, p588777, he588816, ⟨bp588763, bp588764, (hB588804.2.2.1), (hB588804.2.2.2.1), (hB588804.2.2.2.2.1), (hB588804.2.2.2.2.2.1), (hB588804.2.2.2.2.2.2.1), bp588775, (gB_w bp588777' (by decide) (by decide))⟩, ht588778, ht588779, ht588780, ht588781, ht588782, ht588783, ht588784, ht588785, ht588786, ht588787, ht588788, ht588789, ht588790, ht588791, ht588792, ht588793, ht588794, ht588795, ht588796, ht588797, ht588798, ht588799, ht588800, ht588801, hB588805⟩
      have hlp29_589005 : ∀ (n29_589005 : Nat) (g589004 : Int32) (gl589005 : Int64), gB g589004 0 8 → ((9 : Int) - g589004.toInt).toNat < n29_589005 → G (gV D I) l (gRm 1 21 0 0) (gMA (gV D I) (pt_588758_SpillForgeModel_word D I γ el P588754 F588755 q588756 p588757) gNA 0 0) ky_588758_SpillForgeModel_word 29 [(4, .int g589004), (2, .long gl589005), (0, .ref q588756), (1, .int p588757)] [] (va_pl P588754 F588813) 0 0 := by
        intro n29_589005
        induction n29_589005 with
        | zero => intro g589004 gl589005 bg589004 hm29_589005; exact absurd hm29_589005 (Nat.not_lt_zero _)
        | succ n29_589005 ih29_589005 =>
          intro g589004 gl589005 bg589004 hm29_589005
          refine G_iload 0 dr_cX17_word__29 rfl ?_
          refine G_bipush 8 dr_cX17_word__31 (by decide +kernel) ?_
          refine G_icmp_ge 77 dr_cX17_word__33 (by decide +kernel) (fun hc589007 => ?_) (fun hc589007 => ?_)
          · have r589008 : 8 ≤ g589004.toInt := gj_leL hc589007 (show Int32.toInt 8 = 8 by decide)
            have bg589004' : gB g589004 8 8 := ⟨by omega, by omega⟩
            refine G_lload_n 1 dr_cX17_word__77 rfl ?_
            have ac589009 : (fI (F588813 q588756) 9).toInt = p588763.toInt := by rw [he588816]; rfl
            have ac589010 : (fI (F588813 q588756) 10).toInt = p588764.toInt := by rw [he588816]; rfl
            have ac589011 : (fI (F588813 q588756) 32).toInt = p588775.toInt := by rw [he588816]; rfl
            exact G_lretA dr_cX17_word__78 rfl (Nat.le_of_ble_eq_true rfl) (Nat.le_of_ble_eq_true rfl) ⟨F588813, gl589005, rfl, rfl, hT588895, hs588817, (Nat.le_of_ble_eq_true rfl), (Nat.le_of_ble_eq_true rfl), (by omega), (by omega), (by omega)⟩
          · have r589012 : g589004.toInt < 8 := gj_nleL hc589007 (show Int32.toInt 8 = 8 by decide)
            have bg589004' : gB g589004 0 7 := ⟨by omega, by omega⟩
            refine G_lload_n 1 dr_cX17_word__36 rfl ?_
            refine G_bipush 8 dr_cX17_word__37 (by decide +kernel) ?_
            refine G_lshl dr_cX17_word__39 (G_namL fun u589013 hu589013 => ?_)
            refine G_iload_n 3 dr_cX17_word__40 rfl ?_
            refine G_iload 0 dr_cX17_word__41 rfl ?_
            refine G_iadd dr_cX17_word__43 (G_nam fun z589014 hz589014 => ?_)
            have ez589014 : z589014.toInt = p588757.toInt + g589004.toInt := by rw [gI_add hz589014 bp588757'' bg589004' (by decide) (by decide)]
            have bz589014 : gB z589014 0 16777222 := gB_add (gI_add hz589014 bp588757'' bg589004' (by decide) (by decide)) bp588757'' bg589004' (by decide) (by decide)
            refine G_aload_n 2 dr_cX17_word__44 rfl ?_
            refine Gp_get 34 hm588759 he588816 dr_cX17_word__45 (gk_X17 D I) (Nat.le_of_ble_eq_true rfl) wr_7_108 rfl ?_
            refine G_icmp_ge 67 dr_cX17_word__48 (by decide +kernel) (fun hc589015 => ?_) (fun hc589015 => ?_)
            · have r589016 : p588777.toInt ≤ z589014.toInt := gC_le hc589015
              have bz589014' : gB z589014 1 16777222 := ⟨by omega, by omega⟩
              refine G_iconst 0 dr_cX17_word__67 (by decide +kernel) ?_
              refine G_i2l dr_cX17_word__68 (G_namL fun u589017 hu589017 => ?_)
              refine G_lor dr_cX17_word__69 (G_namL fun u589018 hu589018 => ?_)
              refine G_lstore_n (L' := [(2, .long u589018), (4, .int g589004), (0, .ref q588756), (1, .int p588757)]) dr_cX17_word__70 (Nat.le_of_ble_eq_true rfl) rfl ?_
              obtain ⟨z589019, hz589019⟩ : ∃ z : Int32, z = g589004 + Int32.ofInt 1 := ⟨_, rfl⟩
              have ez589019 : z589019.toInt = g589004.toInt + 1 := gI_inc hz589019 (by decide) bg589004' (by decide) (by decide)
              have bz589019 : gB z589019 1 8 := ⟨by omega, by omega⟩
              refine G_iinc (L' := [(4, .int z589019), (2, .long u589018), (0, .ref q588756), (1, .int p588757)]) z589019 1 dr_cX17_word__71 rfl hz589019.symm (Nat.le_of_ble_eq_true rfl) rfl ?_
              refine G_goto 29 dr_cX17_word__74 (by decide +kernel) ?_
              have ac589020 : (fI (F588813 q588756) 9).toInt = p588763.toInt := by rw [he588816]; rfl
              have ac589021 : (fI (F588813 q588756) 10).toInt = p588764.toInt := by rw [he588816]; rfl
              have ac589022 : (fI (F588813 q588756) 32).toInt = p588775.toInt := by rw [he588816]; rfl
              exact ih29_589005 z589019 u589018 (gB_w bz589019 (by decide) (by decide)) (mz_up ez589019 (Int.le_trans bg589004'.2 (by decide)) hm29_589005)
            · have r589023 : z589014.toInt < p588777.toInt := gC_nle hc589015
              have bz589014' : gB z589014 0 16777215 := ⟨by omega, by omega⟩
              refine G_aload_n 2 dr_cX17_word__51 rfl ?_
              refine Gp_get 35 hm588759 he588816 dr_cX17_word__52 (gk_X17 D I) (Nat.le_of_ble_eq_true rfl) wr_7_109 rfl ?_
              refine G_iload_n 3 dr_cX17_word__55 rfl ?_
              refine G_iload 0 dr_cX17_word__56 rfl ?_
              refine G_iadd dr_cX17_word__58 (G_nam fun z589024 hz589024 => ?_)
              have ez589024 : z589024.toInt = p588757.toInt + g589004.toInt := by rw [gI_add hz589024 bp588757'' bg589004' (by decide) (by decide)]
              have bz589024 : gB z589024 0 16777222 := gB_add (gI_add hz589024 bp588757'' bg589004' (by decide) (by decide)) bp588757'' bg589004' (by decide) (by decide)
              have hm589025 : q588762 ∈ P588754 := RS_m hT588895 ht588779 (by decide)
              obtain ⟨n589028, f589027, he589026, bf589027, hn589028, gn589028⟩ := show rk_27 I γ q588762 (F588813 q588762) from RS_o hT588895 ht588779
              refine Gp_bald 1 hm589025 he589026 dr_cX17_word__59 rfl (gB_inr (by omega) (by omega)) (G_nam fun z589029 hz589029 => ?_)
              have bz589029 : gB z589029 (-128) 127 := by rw [hz589029]; exact bf589027 _
              refine G_sipush 255 dr_cX17_word__60 (by decide +kernel) ?_
              refine G_iand dr_cX17_word__63 (G_nam fun z589030 hz589030 => ?_)
              have bz589030 : gB z589030 0 255 := gB_and hz589030 (gBl (show Int32.toInt 255 = 255 by decide)) (by decide)
              refine G_goto 68 dr_cX17_word__64 (by decide +kernel) ?_
              refine G_i2l dr_cX17_word__68 (G_namL fun u589031 hu589031 => ?_)
              refine G_lor dr_cX17_word__69 (G_namL fun u589032 hu589032 => ?_)
              refine G_lstore_n (L' := [(2, .long u589032), (4, .int g589004), (0, .ref q588756), (1, .int p588757)]) dr_cX17_word__70 (Nat.le_of_ble_eq_true rfl) rfl ?_
              obtain ⟨z589033, hz589033⟩ : ∃ z : Int32, z = g589004 + Int32.ofInt 1 := ⟨_, rfl⟩
              have ez589033 : z589033.toInt = g589004.toInt + 1 := gI_inc hz589033 (by decide) bg589004' (by decide) (by decide)
              have bz589033 : gB z589033 1 8 := ⟨by omega, by omega⟩
              refine G_iinc (L' := [(4, .int z589033), (2, .long u589032), (0, .ref q588756), (1, .int p588757)]) z589033 1 dr_cX17_word__71 rfl hz589033.symm (Nat.le_of_ble_eq_true rfl) rfl ?_
              refine G_goto 29 dr_cX17_word__74 (by decide +kernel) ?_
              have ac589034 : (fI (F588813 q588756) 9).toInt = p588763.toInt := by rw [he588816]; rfl
              have ac589035 : (fI (F588813 q588756) 10).toInt = p588764.toInt := by rw [he588816]; rfl
              have ac589036 : (fI (F588813 q588756) 32).toInt = p588775.toInt := by rw [he588816]; rfl
              exact ih29_589005 z589033 u589032 (gB_w bz589033 (by decide) (by decide)) (mz_up ez589033 (Int.le_trans bg589004'.2 (by decide)) hm29_589005)
      have ac589037 : (fI (F588813 q588756) 9).toInt = p588763.toInt := by rw [he588816]; rfl
      have ac589038 : (fI (F588813 q588756) 10).toInt = p588764.toInt := by rw [he588816]; rfl
      have ac589039 : (fI (F588813 q588756) 32).toInt = p588775.toInt := by rw [he588816]; rfl
      exact hlp29_589005 (((9 : Int) - 0).toNat + 1) 0 0 (gB_w (gBl (show Int32.toInt 0 = 0 by decide)) (by decide) (by decide)) (Nat.lt_succ_self _)
    · have r589040 : p588777.toInt ≤ p588757.toInt := gC_nlt hc588893
      refine G_aload_n 0 dr_cX17_word__17 rfl ?_
      refine G_iconst 1 dr_cX17_word__18 (by decide +kernel) ?_
      have hT589041 : RS D I P588754 F588813 γ el := RS_set hT n588815 htq588756 (by decide) ⟨q588761, q588762, p588763, p588764, p588765, p588766, p588767, p588768, p588769, p588770, p588771, p588772, p588773, 0, p588775, p588776, p588777, he588816, ⟨bp588763, bp588764, (hB588804.2.2.1), (hB588804.2.2.2.1), (hB588804.2.2.2.2.1), (hB588804.2.2.2.2.2.1), (hB588804.2.2.2.2.2.2.1), bp588775, bp588777⟩, ht588778, ht588779, ht588780, ht588781, ht588782, ht588783, ht588784, ht588785, ht588786, ht588787, ht588788, ht588789, ht588790, ht588791, ht588792, ht588793, ht588794, ht588795, ht588796, ht588797, ht588798, ht588799, ht588800, ht588801, hB588805⟩
      have ac589042 : (fI (F588813 q588756) 9).toInt = p588763.toInt := by rw [he588816]; rfl
      have ac589043 : (fI (F588813 q588756) 10).toInt = p588764.toInt := by rw [he588816]; rfl
      have ac589044 : (fI (F588813 q588756) 32).toInt = p588775.toInt := by rw [he588816]; rfl
      refine Gw_callV (As := [.int 1]) (gV_ok D I) (ct_580660_SpillForgeModel_no l hl0 D I γ el P588754 F588813 q588756 1 hT589041 htq588756) dr_cX17_word__19 ⟨wr_7_191, wr_1_14, wr_7_194, by decide, rfl, (Nat.le_of_ble_eq_true rfl), (Nat.le_of_ble_eq_true rfl)⟩ wr_7_193 wr_p_73 hm588759 he588816 rfl (show 0 + 0 ≤ 0 by first | omega | decide) (show 0 + 0 ≤ 0 by first | omega | decide) (Nat.le_of_ble_eq_true rfl) (fun r589048 w589049 dc589045 ds589046 hp589047 => ?_) (fun _ _ _ _ _ z => z.elim)
      obtain ⟨F589055, rfl, rfl, hT589056, hs589057, hdc, hds, x589050, x589051, x589052, x589053, ht589054⟩ := hp589047
      have hs589058 : rStr γ [] F588755 F589055 := rStr_tr hs588817 hs589057
      rw [show Int32.toInt 1 = 1 from by decide] at x589053
      change G _ _ _ _ _ _ _ (.int 0 :: _) _ _ _
      refine G_widen (cs' := 0) (sl' := 0) (by omega) (by omega) ?_
      refine G_i2l dr_cX17_word__22 (G_namL fun u589059 hu589059 => ?_)
      have hm589060 : q588756 ∈ P588754 := RS_m hT589056 htq588756 (by decide)
      refine rk10_e (show rk_10 γ (F589055 q588756) from RS_o hT589056 htq588756) (fun q589062 q589063 p589064 p589065 p589066 p589067 p589068 p589069 p589070 p589071 p589072 p589073 p589074 p589075 p589076 p589077 p589078 he589061 hB589105 ht589079 ht589080 ht589081 ht589082 ht589083 ht589084 ht589085 ht589086 ht589087 ht589088 ht589089 ht589090 ht589091 ht589092 ht589093 ht589094 ht589095 ht589096 ht589097 ht589098 ht589099 ht589100 ht589101 ht589102 hB589106 => ?_)
      have ac589107 : (fI (F589055 q588756) 9).toInt = p589064.toInt := by rw [he589061]; rfl
      have bp589064 : gB p589064 0 1 := (hB589105.1)
      have ac589108 : (fI (F589055 q588756) 10).toInt = p589065.toInt := by rw [he589061]; rfl
      have bp589065 : gB p589065 0 1 := (hB589105.2.1)
      have ac589109 : (fI (F589055 q588756) 32).toInt = p589076.toInt := by rw [he589061]; rfl
      have bp589076 : gB p589076 0 8192 := (hB589105.2.2.2.2.2.2.2.1)
      have ac589110 : (fI (F589055 q588756) 9).toInt = p589064.toInt := by rw [he589061]; rfl
      have ac589111 : (fI (F589055 q588756) 10).toInt = p589065.toInt := by rw [he589061]; rfl
      have ac589112 : (fI (F589055 q588756) 32).toInt = p589076.toInt := by rw [he589061]; rfl
      exact G_lretA dr_cX17_word__23 rfl (Nat.le_of_ble_eq_true rfl) (Nat.le_of_ble_eq_true rfl) ⟨F589055, u589059, rfl, rfl, hT589056, hs589058, (Nat.le_of_ble_eq_true rfl), (Nat.le_of_ble_eq_true rfl), (by omega), (by omega), (by omega)⟩
/- tr_RModel_no2: F -/
def tr_RModel_no2 (D : va_G) (I : FieldType → ClassId) (γ el : Nat → Nat → Nat) (F : Nat → va_E) (q0 : Nat) (a1 : Int32) (o1 : Nat → va_E) : Prop := ∀ R : (Nat → va_E) → Prop,
  (∀ (x1 : Nat → va_E), (∀ b, b ≠ q0 → x1 b = F b) → x1 q0 = cF (F q0) 30 (.int a1) → R x1) →
  R o1
abbrev ky_589203_SpillForgeModel_no : gKey := (cX17_no, 2, "SpillForgeModel", (some FieldType.int), [], "no", fun _ _ => True)
def pt_589203_SpillForgeModel_no (D : va_G) (I : FieldType → ClassId) (γ el : Nat → Nat → Nat) (P589199 : List Nat) (F589200 : Nat → va_E) (q589201 : Nat) (p589202 : Int32) : Option Value → va_W → Nat → Nat → Prop := fun r w dc ds => ∃ (F589261 : Nat → va_E), r = some (.int 0) ∧ w = va_pl P589199 F589261 ∧ RS D I P589199 F589261 γ el ∧ rStr γ [] F589200 F589261 ∧ dc ≤ 0 ∧ ds ≤ 0 ∧ (fI (F589261 q589201) 10).toInt = (fI (F589200 q589201) 10).toInt ∧ mKp (F589200 q589201) (F589261 q589201) ∧ tr_RModel_no2 D I γ el F589200 q589201 p589202 F589261
set_option maxRecDepth 100000 in
set_option maxHeartbeats 4000000 in
theorem ct_589203_SpillForgeModel_no (l : Launch) (hl0 : l.stackTraces = false) (D : va_G) (I : FieldType → ClassId) (γ el : Nat → Nat → Nat) (P589199 : List Nat) (F589200 : Nat → va_E) (q589201 : Nat) (p589202 : Int32) (hT : RS D I P589199 F589200 γ el) (htq589201 : rKd γ q589201 10) : CtA (gV D I) l yX17_no cX17_no 2 (some FieldType.int) 0 0 0 0 [.ref q589201, .int p589202] (va_pl P589199 F589200) (pt_589203_SpillForgeModel_no D I γ el P589199 F589200 q589201 p589202) gNA := by
  refine CtA_of hl0 (by decide) (Nat.le_of_ble_eq_true rfl) ?_
  have bp589202 := gB_any p589202
  have hm589204 : q589201 ∈ P589199 := RS_m hT htq589201 (by decide)
  refine rk10_e (show rk_10 γ (F589200 q589201) from RS_o hT htq589201) (fun q589206 q589207 p589208 p589209 p589210 p589211 p589212 p589213 p589214 p589215 p589216 p589217 p589218 p589219 p589220 p589221 p589222 he589205 hB589249 ht589223 ht589224 ht589225 ht589226 ht589227 ht589228 ht589229 ht589230 ht589231 ht589232 ht589233 ht589234 ht589235 ht589236 ht589237 ht589238 ht589239 ht589240 ht589241 ht589242 ht589243 ht589244 ht589245 ht589246 hB589250 => ?_)
  have ac589251 : (fI (F589200 q589201) 10).toInt = p589209.toInt := by rw [he589205]; rfl
  have bp589209 : gB p589209 0 1 := (hB589249.2.1)
  refine G_aload_n 0 dr_cX17_no_0 rfl ?_
  refine G_iload_n 1 dr_cX17_no_1 rfl ?_
  refine Gp_put 30 hm589204 he589205 dr_cX17_no_2 (gk_X17 D I) (Nat.le_of_ble_eq_true rfl) wr_7_104 rfl rfl rfl (Nat.le_of_ble_eq_true rfl) (fun F589252 e589253 n589254 => ?_)
  have he589255 : F589252 q589201 = .inr (22, [.ref (γ 9 0), .ref (γ 9 1), .ref (γ 9 2), .ref (γ 9 3), .ref (γ 9 4), .ref (γ 9 5), .ref (γ 9 6), .ref (γ 9 7), .ref (γ 9 8), .int p589208, .int p589209, .int p589210, .int p589211, .int p589212, .int p589213, .ref (γ 9 15), .ref (γ 9 16), .ref (γ 9 17), .ref (γ 9 18), .ref (γ 9 19), .ref (γ 9 20), .ref (γ 9 21), .ref (γ 9 22), .int p589214, .int p589215, .int p589216, .int p589217, .int p589218, .ref q589206, .ref (γ 9 29), .int p589202, .ref (γ 9 31), .int p589220, .int p589221, .int p589222, .ref q589207]) := e589253
  have mk589256 : mKp (F589200 q589201) (F589252 q589201) := mKp_tr mKp_rf (by rw [he589205, he589255]; exact ⟨rfl, rfl⟩)
  have hs589257 : rStr γ [] F589200 F589252 := rStr_put (rStr_rf (γ := γ) (W := []) (F := F589200)) n589254 htq589201 (by decide)
  have fq589258 : F589252 q589201 = cF (F589200 q589201) 30 (.int p589202) := by rw [he589255, he589205]; rfl
  refine G_iconst 0 dr_cX17_no_5 (by decide +kernel) ?_
  have hT589259 : RS D I P589199 F589252 γ el := RS_set hT n589254 htq589201 (by decide) ⟨q589206, q589207, p589208, p589209, p589210, p589211, p589212, p589213, p589214, p589215, p589216, p589217, p589218, p589202, p589220, p589221, p589222, he589255, ⟨(hB589249.1), bp589209, (hB589249.2.2.1), (hB589249.2.2.2.1), (hB589249.2.2.2.2.1), (hB589249.2.2.2.2.2.1), (hB589249.2.2.2.2.2.2.1), (hB589249.2.2.2.2.2.2.2.1), (hB589249.2.2.2.2.2.2.2.2)⟩, ht589223, ht589224, ht589225, ht589226, ht589227, ht589228, ht589229, ht589230, ht589231, ht589232, ht589233, ht589234, ht589235, ht589236, ht589237, ht589238, ht589239, ht589240, ht589241, ht589242, ht589243, ht589244, ht589245, ht589246, hB589250⟩
  have ac589260 : (fI (F589252 q589201) 10).toInt = p589209.toInt := by rw [he589255]; rfl
  exact G_iretA dr_cX17_no_6 rfl (Nat.le_of_ble_eq_true rfl) (Nat.le_of_ble_eq_true rfl) ⟨F589252, rfl, rfl, hT589259, hs589257, (Nat.le_of_ble_eq_true rfl), (Nat.le_of_ble_eq_true rfl), (by have qa0 : Int32.toInt 0 = 0 := (by decide); omega), mk589256, (fun R c1 => c1 F589252 n589254 fq589258)⟩
/- tr_RModel_look: result, P, F, gm, el -/
def tr_RModel_look (D : va_G) (I : FieldType → ClassId) (γ0 el0 : Nat → Nat → Nat) (f : Nat) (fo : Nat) (P : List Nat) (F : Nat → va_E) (q0 : Nat) (a1 : Int32) (a2 : Int32) (p : Nat) (p2 : Nat) (o1 : Int32) (o2 : List Nat) (o3 : Nat → va_E) (o4 : Nat → Nat → Nat) (o5 : Nat → Nat → Nat) : Prop := ∀ R : (Int32) → (List Nat) → (Nat → va_E) → (Nat → Nat → Nat) → (Nat → Nat → Nat) → Prop,
  (∀ (x1 : Nat → Nat → Nat) (x2 : Nat → Nat → Nat) (x3 : Nat → va_E) (x4 : Int32) (x5 : Nat → va_E), x1 = γ0 → x2 = el0 → (∀ b, b ≠ q0 → x3 b = F b) → x3 q0 = cF (F q0) 30 (.int 0) → fI (x3 q0) 9 = x4 → x4.toInt ≠ 0 → a2.toInt < 0 → RS D I P x5 x1 x2 → rStr x1 [] x3 x5 → (fI (x5 q0) 10).toInt = (fI (x3 q0) 10).toInt → mKp (x3 q0) (x5 q0) → tr_RModel_no2 D I x1 x2 x3 q0 (2 : Int32) x5 → R (0 : Int32) P x5 x1 x2) →
  (∀ (x1 : Nat → Nat → Nat) (x2 : Nat → Nat → Nat) (x3 : Nat → va_E) (x4 : Int32) (x5 : Nat → va_E) (x6 : Nat → va_E), x1 = γ0 → x2 = el0 → (∀ b, b ≠ q0 → x3 b = F b) → x3 q0 = cF (F q0) 30 (.int 0) → fI (x3 q0) 9 = x4 → x4.toInt ≠ 0 → 0 ≤ a2.toInt → a2.toInt ≤ 3 → a2.toInt ≤ 1 → fR (x3 q0) 6 = (x1 9 6) → RS D I P x5 x1 x2 → rStr x1 [] x3 x5 → (gIp ((0 : Int) = 0) (rGr x1 x2 x3 p2 (x1 6 (x1 1 p2)) (cB (x5 (x1 9 3))) (vA (x1 6 (x1 1 p2))))) → (x5 q0 = x3 q0) → tr_RModel_graph D I x1 x2 P x3 q0 p2 (0 : Int32) x5 → a1.toInt < 0 → RS D I P x6 x1 x2 → rStr x1 [] x5 x6 → (fI (x6 q0) 10).toInt = (fI (x5 q0) 10).toInt → mKp (x5 q0) (x6 q0) → tr_RModel_no2 D I x1 x2 x5 q0 (3 : Int32) x6 → R (0 : Int32) P x6 x1 x2) →
  (∀ (x1 : Nat → Nat → Nat) (x2 : Nat → Nat → Nat) (x3 : Nat → va_E) (x4 : Int32) (x5 : Nat → va_E) (x6 : Nat → va_E), x1 = γ0 → x2 = el0 → (∀ b, b ≠ q0 → x3 b = F b) → x3 q0 = cF (F q0) 30 (.int 0) → fI (x3 q0) 9 = x4 → x4.toInt ≠ 0 → 0 ≤ a2.toInt → a2.toInt ≤ 3 → a2.toInt ≤ 1 → fR (x3 q0) 6 = (x1 9 6) → RS D I P x5 x1 x2 → rStr x1 [] x3 x5 → (gIp ((0 : Int) = 0) (rGr x1 x2 x3 p2 (x1 6 (x1 1 p2)) (cB (x5 (x1 9 3))) (vA (x1 6 (x1 1 p2))))) → (x5 q0 = x3 q0) → tr_RModel_graph D I x1 x2 P x3 q0 p2 (0 : Int32) x5 → 0 ≤ a1.toInt → 2000 ≤ a1.toInt → RS D I P x6 x1 x2 → rStr x1 [] x5 x6 → (fI (x6 q0) 10).toInt = (fI (x5 q0) 10).toInt → mKp (x5 q0) (x6 q0) → tr_RModel_no2 D I x1 x2 x5 q0 (3 : Int32) x6 → R (0 : Int32) P x6 x1 x2) →
  (∀ (x1 : Nat → Nat → Nat) (x2 : Nat → Nat → Nat) (x3 : Nat → va_E) (x4 : Int32) (x5 : Nat → va_E) (x6 : Nat → Int32) (x7 : Int32) (x8 : List Nat) (x9 : Nat → va_E) (x10 : Nat → Nat → Nat) (x11 : Nat → Nat → Nat) (x12 : List Nat) (x13 : Nat → va_E) (x14 : Nat → Nat → Nat) (x15 : Nat → Nat → Nat) (x16 : Nat → va_E) (x17 : Nat → va_E) (x18 : Nat) (x19 : Nat → Int64) (x20 : Int32), x1 = γ0 → x2 = el0 → (∀ b, b ≠ q0 → x3 b = F b) → x3 q0 = cF (F q0) 30 (.int 0) → fI (x3 q0) 9 = x4 → x4.toInt ≠ 0 → 0 ≤ a2.toInt → a2.toInt ≤ 3 → a2.toInt ≤ 1 → fR (x3 q0) 6 = (x1 9 6) → RS D I P x5 x1 x2 → rStr x1 [] x3 x5 → (gIp ((0 : Int) = 0) (rGr x1 x2 x3 p2 (x1 6 (x1 1 p2)) (cB (x5 (x1 9 3))) (vA (x1 6 (x1 1 p2))))) → (x5 q0 = x3 q0) → tr_RModel_graph D I x1 x2 P x3 q0 p2 (0 : Int32) x5 → 0 ≤ a1.toInt → a1.toInt < 2000 → fR (x5 q0) 3 = (x1 9 3) → x5 (x1 9 3) = .inl (I .boolean, 2000, .inl x6) → x7 = x6 a1.toNatClampNeg → gB x7 0 1 → x7.toInt ≠ 0 → fR (x5 q0) 8 = (x1 9 8) → fR (x5 q0) 6 = (x1 9 6) → rSk f [1, 2, 3, 101, 102, 103, 202] ([1, 2, 3, 4, 5, 6, 7, 8, 9, 101, 102, 103, 202]) D I P x5 x1 x2 x8 x9 x10 x11 → x10 6 f = x1 6 fo → x10 7 f = 0 → x10 16 f ≤ x1 16 fo → x10 18 f = 0 → tr_RCode_copy D I x1 x2 f fo P x5 p p2 x8 x9 x10 x11 → fR (x9 q0) 8 = (x10 9 8) → rSk f [101] ([1, 3, 5, 6, 8, 9, 101] ++ npk) D I x8 x9 x10 x11 x12 x13 x14 x15 → x14 6 f = x10 6 f → x14 7 f = x10 7 f → x14 16 f ≤ x10 16 f + 2000 → x14 18 f = x10 18 f → (x13 q0 = x9 q0) → tr_RModel_zeros D I x10 x11 f x8 x9 q0 p x12 x13 x14 x15 → fR (x13 q0) 8 = (x14 9 8) → RS D I x12 x16 x14 x15 → rStr x14 [] x13 x16 → (gIp ((0 : Int) = 0) (rGr x14 x15 x13 p (x14 6 (x14 1 p)) (cB (x16 (x14 9 3))) (vA (x14 6 (x14 1 p))))) → (x16 q0 = x13 q0) → tr_RModel_graph D I x14 x15 x12 x13 q0 p (0 : Int32) x16 → fR (x16 q0) 8 = (x14 9 8) → RS D I x12 x17 x14 x15 → rStr x14 [] x16 x17 → (x17 q0 = x16 q0) → (x17 (x14 9 3) = x16 (x14 9 3)) → tr_RModel_weigh D I x14 x15 x12 x16 q0 p x17 → a2.toInt ≠ 0 → fR (x17 q0) 1 = (x14 9 1) → x18 = x14 11 a1.toInt.toNat → x17 x18 = .inl (I .long, 32, .inr (.inl x19)) → tr_RModel_count x19 x20 → R x20 x12 x17 x14 x15) →
  (∀ (x1 : Nat → Nat → Nat) (x2 : Nat → Nat → Nat) (x3 : Nat → va_E) (x4 : Int32) (x5 : Nat → va_E) (x6 : Nat → Int32) (x7 : Int32) (x8 : List Nat) (x9 : Nat → va_E) (x10 : Nat → Nat → Nat) (x11 : Nat → Nat → Nat) (x12 : List Nat) (x13 : Nat → va_E) (x14 : Nat → Nat → Nat) (x15 : Nat → Nat → Nat) (x16 : Nat → va_E) (x17 : Nat → va_E) (x18 : Nat → Int32) (x19 : Int32), x1 = γ0 → x2 = el0 → (∀ b, b ≠ q0 → x3 b = F b) → x3 q0 = cF (F q0) 30 (.int 0) → fI (x3 q0) 9 = x4 → x4.toInt ≠ 0 → 0 ≤ a2.toInt → a2.toInt ≤ 3 → a2.toInt ≤ 1 → fR (x3 q0) 6 = (x1 9 6) → RS D I P x5 x1 x2 → rStr x1 [] x3 x5 → (gIp ((0 : Int) = 0) (rGr x1 x2 x3 p2 (x1 6 (x1 1 p2)) (cB (x5 (x1 9 3))) (vA (x1 6 (x1 1 p2))))) → (x5 q0 = x3 q0) → tr_RModel_graph D I x1 x2 P x3 q0 p2 (0 : Int32) x5 → 0 ≤ a1.toInt → a1.toInt < 2000 → fR (x5 q0) 3 = (x1 9 3) → x5 (x1 9 3) = .inl (I .boolean, 2000, .inl x6) → x7 = x6 a1.toNatClampNeg → gB x7 0 1 → x7.toInt ≠ 0 → fR (x5 q0) 8 = (x1 9 8) → fR (x5 q0) 6 = (x1 9 6) → rSk f [1, 2, 3, 101, 102, 103, 202] ([1, 2, 3, 4, 5, 6, 7, 8, 9, 101, 102, 103, 202]) D I P x5 x1 x2 x8 x9 x10 x11 → x10 6 f = x1 6 fo → x10 7 f = 0 → x10 16 f ≤ x1 16 fo → x10 18 f = 0 → tr_RCode_copy D I x1 x2 f fo P x5 p p2 x8 x9 x10 x11 → fR (x9 q0) 8 = (x10 9 8) → rSk f [101] ([1, 3, 5, 6, 8, 9, 101] ++ npk) D I x8 x9 x10 x11 x12 x13 x14 x15 → x14 6 f = x10 6 f → x14 7 f = x10 7 f → x14 16 f ≤ x10 16 f + 2000 → x14 18 f = x10 18 f → (x13 q0 = x9 q0) → tr_RModel_zeros D I x10 x11 f x8 x9 q0 p x12 x13 x14 x15 → fR (x13 q0) 8 = (x14 9 8) → RS D I x12 x16 x14 x15 → rStr x14 [] x13 x16 → (gIp ((0 : Int) = 0) (rGr x14 x15 x13 p (x14 6 (x14 1 p)) (cB (x16 (x14 9 3))) (vA (x14 6 (x14 1 p))))) → (x16 q0 = x13 q0) → tr_RModel_graph D I x14 x15 x12 x13 q0 p (0 : Int32) x16 → fR (x16 q0) 8 = (x14 9 8) → RS D I x12 x17 x14 x15 → rStr x14 [] x16 x17 → (x17 q0 = x16 q0) → (x17 (x14 9 3) = x16 (x14 9 3)) → tr_RModel_weigh D I x14 x15 x12 x16 q0 p x17 → a2.toInt = 0 → fR (x17 q0) 5 = (x14 9 5) → x17 (x14 9 5) = .inl (I .int, 2000, .inl x18) → x19 = x18 a1.toNatClampNeg → R x19 x12 x17 x14 x15) →
  (∀ (x1 : Nat → Nat → Nat) (x2 : Nat → Nat → Nat) (x3 : Nat → va_E) (x4 : Int32) (x5 : Nat → va_E) (x6 : Nat → Int32) (x7 : Int32) (x8 : Nat → va_E), x1 = γ0 → x2 = el0 → (∀ b, b ≠ q0 → x3 b = F b) → x3 q0 = cF (F q0) 30 (.int 0) → fI (x3 q0) 9 = x4 → x4.toInt ≠ 0 → 0 ≤ a2.toInt → a2.toInt ≤ 3 → a2.toInt ≤ 1 → fR (x3 q0) 6 = (x1 9 6) → RS D I P x5 x1 x2 → rStr x1 [] x3 x5 → (gIp ((0 : Int) = 0) (rGr x1 x2 x3 p2 (x1 6 (x1 1 p2)) (cB (x5 (x1 9 3))) (vA (x1 6 (x1 1 p2))))) → (x5 q0 = x3 q0) → tr_RModel_graph D I x1 x2 P x3 q0 p2 (0 : Int32) x5 → 0 ≤ a1.toInt → a1.toInt < 2000 → fR (x5 q0) 3 = (x1 9 3) → x5 (x1 9 3) = .inl (I .boolean, 2000, .inl x6) → x7 = x6 a1.toNatClampNeg → gB x7 0 1 → x7.toInt = 0 → RS D I P x8 x1 x2 → rStr x1 [] x5 x8 → (fI (x8 q0) 10).toInt = (fI (x5 q0) 10).toInt → mKp (x5 q0) (x8 q0) → tr_RModel_no2 D I x1 x2 x5 q0 (3 : Int32) x8 → R (0 : Int32) P x8 x1 x2) →
  (∀ (x1 : Nat → Nat → Nat) (x2 : Nat → Nat → Nat) (x3 : Nat → va_E) (x4 : Int32) (x5 : Nat → va_E), x1 = γ0 → x2 = el0 → (∀ b, b ≠ q0 → x3 b = F b) → x3 q0 = cF (F q0) 30 (.int 0) → fI (x3 q0) 9 = x4 → x4.toInt ≠ 0 → 0 ≤ a2.toInt → a2.toInt ≤ 3 → 1 < a2.toInt → a1.toInt < 0 → RS D I P x5 x1 x2 → rStr x1 [] x3 x5 → (fI (x5 q0) 10).toInt = (fI (x3 q0) 10).toInt → mKp (x3 q0) (x5 q0) → tr_RModel_no2 D I x1 x2 x3 q0 (3 : Int32) x5 → R (0 : Int32) P x5 x1 x2) →
  (∀ (x1 : Nat → Nat → Nat) (x2 : Nat → Nat → Nat) (x3 : Nat → va_E) (x4 : Int32) (x5 : Int32) (x6 : Nat → va_E) (x7 : Nat → va_E) (x8 : Nat → Int32) (x9 : Int32), x1 = γ0 → x2 = el0 → (∀ b, b ≠ q0 → x3 b = F b) → x3 q0 = cF (F q0) 30 (.int 0) → fI (x3 q0) 9 = x4 → x4.toInt ≠ 0 → 0 ≤ a2.toInt → a2.toInt ≤ 3 → 1 < a2.toInt → 0 ≤ a1.toInt → fR (x3 q0) 6 = (x1 9 6) → fI (x3 p2) 3 = x5 → a1.toInt < x5.toInt → RS D I P x6 x1 x2 → rStr x1 [] x3 x6 → (x6 q0 = x3 q0) → tr_RModel_findLive D I x1 x2 P x3 q0 p2 (0 : Int32) x6 → fR (x6 q0) 6 = (x1 9 6) → RS D I P x7 x1 x2 → rStr x1 [] x6 x7 → (x7 q0 = x6 q0) → (x7 (x1 9 3) = x6 (x1 9 3)) → tr_RModel_findDepth2 D I x1 x2 P x6 q0 p2 x7 → a2.toInt ≠ 2 → fR (x7 q0) 4 = (x1 9 4) → x7 (x1 9 4) = .inl (I .int, 40, .inl x8) → x9 = x8 a1.toNatClampNeg → R x9 P x7 x1 x2) →
  (∀ (x1 : Nat → Nat → Nat) (x2 : Nat → Nat → Nat) (x3 : Nat → va_E) (x4 : Int32) (x5 : Int32) (x6 : Nat → va_E) (x7 : Nat → va_E) (x8 : Nat) (x9 : Nat → Int64) (x10 : Int32), x1 = γ0 → x2 = el0 → (∀ b, b ≠ q0 → x3 b = F b) → x3 q0 = cF (F q0) 30 (.int 0) → fI (x3 q0) 9 = x4 → x4.toInt ≠ 0 → 0 ≤ a2.toInt → a2.toInt ≤ 3 → 1 < a2.toInt → 0 ≤ a1.toInt → fR (x3 q0) 6 = (x1 9 6) → fI (x3 p2) 3 = x5 → a1.toInt < x5.toInt → RS D I P x6 x1 x2 → rStr x1 [] x3 x6 → (x6 q0 = x3 q0) → tr_RModel_findLive D I x1 x2 P x3 q0 p2 (0 : Int32) x6 → fR (x6 q0) 6 = (x1 9 6) → RS D I P x7 x1 x2 → rStr x1 [] x6 x7 → (x7 q0 = x6 q0) → (x7 (x1 9 3) = x6 (x1 9 3)) → tr_RModel_findDepth2 D I x1 x2 P x6 q0 p2 x7 → a2.toInt = 2 → fR (x7 q0) 0 = (x1 9 0) → x8 = x1 10 a1.toInt.toNat → x7 x8 = .inl (I .long, 32, .inr (.inl x9)) → tr_RModel_count x9 x10 → R x10 P x7 x1 x2) →
  (∀ (x1 : Nat → Nat → Nat) (x2 : Nat → Nat → Nat) (x3 : Nat → va_E) (x4 : Int32) (x5 : Int32) (x6 : Nat → va_E), x1 = γ0 → x2 = el0 → (∀ b, b ≠ q0 → x3 b = F b) → x3 q0 = cF (F q0) 30 (.int 0) → fI (x3 q0) 9 = x4 → x4.toInt ≠ 0 → 0 ≤ a2.toInt → a2.toInt ≤ 3 → 1 < a2.toInt → 0 ≤ a1.toInt → fR (x3 q0) 6 = (x1 9 6) → fI (x3 p2) 3 = x5 → x5.toInt ≤ a1.toInt → RS D I P x6 x1 x2 → rStr x1 [] x3 x6 → (fI (x6 q0) 10).toInt = (fI (x3 q0) 10).toInt → mKp (x3 q0) (x6 q0) → tr_RModel_no2 D I x1 x2 x3 q0 (3 : Int32) x6 → R (0 : Int32) P x6 x1 x2) →
  (∀ (x1 : Nat → Nat → Nat) (x2 : Nat → Nat → Nat) (x3 : Nat → va_E) (x4 : Int32) (x5 : Nat → va_E), x1 = γ0 → x2 = el0 → (∀ b, b ≠ q0 → x3 b = F b) → x3 q0 = cF (F q0) 30 (.int 0) → fI (x3 q0) 9 = x4 → x4.toInt ≠ 0 → 0 ≤ a2.toInt → 3 < a2.toInt → RS D I P x5 x1 x2 → rStr x1 [] x3 x5 → (fI (x5 q0) 10).toInt = (fI (x3 q0) 10).toInt → mKp (x3 q0) (x5 q0) → tr_RModel_no2 D I x1 x2 x3 q0 (2 : Int32) x5 → R (0 : Int32) P x5 x1 x2) →
  (∀ (x1 : Nat → Nat → Nat) (x2 : Nat → Nat → Nat) (x3 : Nat → va_E) (x4 : Int32) (x5 : Nat → va_E), x1 = γ0 → x2 = el0 → (∀ b, b ≠ q0 → x3 b = F b) → x3 q0 = cF (F q0) 30 (.int 0) → fI (x3 q0) 9 = x4 → x4.toInt = 0 → RS D I P x5 x1 x2 → rStr x1 [] x3 x5 → (fI (x5 q0) 10).toInt = (fI (x3 q0) 10).toInt → mKp (x3 q0) (x5 q0) → tr_RModel_no2 D I x1 x2 x3 q0 (1 : Int32) x5 → R (0 : Int32) P x5 x1 x2) →
  R o1 o2 o3 o4 o5
abbrev ky_589127_SpillForgeModel_look : gKey := (cX17_look, 3, "SpillForgeModel", (some FieldType.int), [], "look", fun _ _ => True)
def pg_589127_SpillForgeModel_look (D : va_G) (I : FieldType → ClassId) (γ0 el0 : Nat → Nat → Nat) (f : Nat) (fo : Nat) (B : Nat) (P589115 : List Nat) (F589116 : Nat → va_E) (q589117 : Nat) (p589118 : Int32) (p589119 : Int32) (q589120 : Nat) (q589121 : Nat) : Option Value → va_W → Nat → Nat → Prop := fun r w dc ds => ∃ (P589767 : List Nat) (F589768 : Nat → va_E) (γ el : Nat → Nat → Nat) (o589766 : Int32), r = some (.int o589766) ∧ w = va_pl P589767 F589768 ∧ rSk f [1, 2, 3, 101, 102, 103, 202] ([1, 2, 3, 4, 5, 6, 7, 8, 9, 101, 102, 103, 202] ++ npk) D I P589115 F589116 γ0 el0 P589767 F589768 γ el ∧ (18 * dc + rPh γ0 el0 f ≤ rPh γ el f ∧ ds + rPh γ0 el0 f ≤ rPh γ el f) ∧ rBd γ el f B ∧ (fI (F589768 q589117) 10).toInt = (fI (F589116 q589117) 10).toInt ∧ mKp (F589116 q589117) (F589768 q589117) ∧ tr_RModel_look D I γ0 el0 f fo P589115 F589116 q589117 p589118 p589119 q589120 q589121 o589766 P589767 F589768 γ el
set_option maxRecDepth 100000 in
set_option maxHeartbeats 20000000 in
theorem cg_589127_SpillForgeModel_look (l : Launch) (hl0 : l.stackTraces = false) (D : va_G) (I : FieldType → ClassId) (γ0 el0 : Nat → Nat → Nat) (f : Nat) (fo : Nat) (B : Nat) (P589115 : List Nat) (F589116 : Nat → va_E) (q589117 : Nat) (p589118 : Int32) (p589119 : Int32) (q589120 : Nat) (q589121 : Nat) (hT0 : RS D I P589115 F589116 γ0 el0) (hzq589117 : rKd γ0 q589117 10) (hzq589120 : rKd γ0 q589120 9) (hzq589121 : rKd γ0 q589121 9) (hvq589120 : γ0 9 8 = q589120) (hvq589121 : γ0 9 6 = q589121) (hf0 : γ0 1 q589120 = f) (hfo0 : γ0 1 q589121 = fo) (hne : fo ≠ f) (hB0 : rBd γ0 el0 f B) (hBk : B ≤ 100000) (x589122 : f = 2) (x589123 : fo = 0) (x589124 : ((fI (F589116 q589117) 9).toInt = 0 ∨ (0 < γ0 6 fo ∧ γ0 16 fo ≤ 160))) (x589125 : γ0 7 fo = 0) (x589126 : 2160 ≤ B) : CtA (gV D I) l yX17_look cX17_look 3 (some FieldType.int) 9 196 (((387 * B + 6000) - rPh γ0 el0 f) / 18) ((387 * B + 6000) - rPh γ0 el0 f) [.ref q589117, .int p589118, .int p589119] (va_pl P589115 F589116) (pg_589127_SpillForgeModel_look D I γ0 el0 f fo B P589115 F589116 q589117 p589118 p589119 q589120 q589121) gNA := by
  refine CtA_of hl0 (by decide) (Nat.le_of_ble_eq_true rfl) ?_
  have bp589118 := gB_any p589118
  have bp589119 := gB_any p589119
  obtain ⟨gm_0, hγ0⟩ : ∃ z, z = γ0 := ⟨_, rfl⟩
  obtain ⟨el_0, hel0⟩ : ∃ z, z = el0 := ⟨_, rfl⟩
  have hT : RS D I P589115 F589116 gm_0 el_0 := by rw [hγ0, hel0]; exact hT0
  have hst : rSk f [1, 2, 3, 101, 102, 103, 202] ([1, 2, 3, 4, 5, 6, 7, 8, 9, 101, 102, 103, 202] ++ npk) D I P589115 F589116 γ0 el0 P589115 F589116 gm_0 el_0 := by rw [hγ0, hel0]; exact rSk_rf hT0
  have hph : rPh γ0 el0 f ≤ rPh gm_0 el_0 f := by rw [hγ0, hel0]; exact Nat.le_refl _
  have hB : rBd gm_0 el_0 f B := by rw [hγ0, hel0]; exact hB0
  have htq589117 : rKd gm_0 q589117 10 := by rw [hγ0]; exact hzq589117
  have htq589120 : rKd gm_0 q589120 9 := by rw [hγ0]; exact hzq589120
  have htq589121 : rKd gm_0 q589121 9 := by rw [hγ0]; exact hzq589121
  have hf1 : gm_0 1 q589120 = f := by rw [hγ0]; exact hf0
  have hfo1 : gm_0 1 q589121 = fo := by rw [hγ0]; exact hfo0
  have x589124n : ((fI (F589116 q589117) 9).toInt = 0 ∨ (0 < gm_0 6 fo ∧ gm_0 16 fo ≤ 160)) := by rw [hγ0]; exact x589124
  have x589125n : gm_0 7 fo = 0 := by rw [hγ0]; exact x589125
  have pk589128 : rPh gm_0 el_0 f ≤ 387 * B + 6000 := rm_pk (rM_ge hT htq589120 hf1).1 (rM_bd hB)
  refine G_widen (cs' := ((rPh gm_0 el_0 f - rPh γ0 el0 f) / 18)) (sl' := (rPh gm_0 el_0 f - rPh γ0 el0 f)) (Nat.zero_le _) (Nat.zero_le _) ?_
  have lz0 : Int32.toInt 0 = 0 := by decide
  have r589129 : gm_0 6 f = γ0 6 f := by rw [hγ0]
  have r589130 : gm_0 7 f = γ0 7 f := by rw [hγ0]
  have r589131 : gm_0 16 f = γ0 16 f := by rw [hγ0]
  have r589132 : gm_0 18 f = γ0 18 f := by rw [hγ0]
  have r589133 : gm_0 19 f = γ0 19 f := by rw [hγ0]
  have hm589134 : q589117 ∈ P589115 := RS_m hT htq589117 (by decide)
  refine rk10_e (show rk_10 gm_0 (F589116 q589117) from RS_o hT htq589117) (fun q589136 q589137 p589138 p589139 p589140 p589141 p589142 p589143 p589144 p589145 p589146 p589147 p589148 p589149 p589150 p589151 p589152 he589135 hB589179 ht589153 ht589154 ht589155 ht589156 ht589157 ht589158 ht589159 ht589160 ht589161 ht589162 ht589163 ht589164 ht589165 ht589166 ht589167 ht589168 ht589169 ht589170 ht589171 ht589172 ht589173 ht589174 ht589175 ht589176 hB589180 => ?_)
  have ac0_9 : (fI (F589116 q589117) 9).toInt = p589138.toInt := by rw [he589135]; rfl
  have ac0_10 : (fI (F589116 q589117) 10).toInt = p589139.toInt := by rw [he589135]; rfl
  have ac0_32 : (fI (F589116 q589117) 32).toInt = p589150.toInt := by rw [he589135]; rfl
  have r589181 : gm_0 6 fo = γ0 6 fo := by rw [hγ0]
  have r589182 : gm_0 7 fo = γ0 7 fo := by rw [hγ0]
  have r589183 : gm_0 16 fo = γ0 16 fo := by rw [hγ0]
  refine G_aload_n 0 dr_cX17_look_0 rfl ?_
  refine G_iconst 0 dr_cX17_look_1 (by decide +kernel) ?_
  refine Gp_put 30 hm589134 he589135 dr_cX17_look_2 (gk_X17 D I) (Nat.le_of_ble_eq_true rfl) wr_7_104 rfl rfl rfl (Nat.le_of_ble_eq_true rfl) (fun F589184 e589185 n589186 => ?_)
  have he589187 : F589184 q589117 = .inr (22, [.ref (gm_0 9 0), .ref (gm_0 9 1), .ref (gm_0 9 2), .ref (gm_0 9 3), .ref (gm_0 9 4), .ref (gm_0 9 5), .ref (gm_0 9 6), .ref (gm_0 9 7), .ref (gm_0 9 8), .int p589138, .int p589139, .int p589140, .int p589141, .int p589142, .int p589143, .ref (gm_0 9 15), .ref (gm_0 9 16), .ref (gm_0 9 17), .ref (gm_0 9 18), .ref (gm_0 9 19), .ref (gm_0 9 20), .ref (gm_0 9 21), .ref (gm_0 9 22), .int p589144, .int p589145, .int p589146, .int p589147, .int p589148, .ref q589136, .ref (gm_0 9 29), .int 0, .ref (gm_0 9 31), .int p589150, .int p589151, .int p589152, .ref q589137]) := e589185
  have mk589188 : mKp (F589116 q589117) (F589184 q589117) := mKp_tr mKp_rf (by rw [he589135, he589187]; exact ⟨rfl, rfl⟩)
  have fq589189 : F589184 q589117 = cF (F589116 q589117) 30 (.int 0) := by rw [he589187, he589135]; rfl
  have hT589190 : RS D I P589115 F589184 gm_0 el_0 := RS_set hT n589186 htq589117 (by decide) ⟨q589136, q589137, p589138, p589139, p589140, p589141, p589142, p589143, p589144, p589145, p589146, p589147, p589148, 0, p589150, p589151, p589152, he589187, ⟨(hB589179.1), (hB589179.2.1), (hB589179.2.2.1), (hB589179.2.2.2.1), (hB589179.2.2.2.2.1), (hB589179.2.2.2.2.2.1), (hB589179.2.2.2.2.2.2.1), (hB589179.2.2.2.2.2.2.2.1), (hB589179.2.2.2.2.2.2.2.2)⟩, ht589153, ht589154, ht589155, ht589156, ht589157, ht589158, ht589159, ht589160, ht589161, ht589162, ht589163, ht589164, ht589165, ht589166, ht589167, ht589168, ht589169, ht589170, ht589171, ht589172, ht589173, ht589174, ht589175, ht589176, hB589180⟩
  have hs589191 := rSk_put hst hT589190 n589186 htq589117 (by decide) (by decide) (Or.inr (Or.inr (by decide)))
  have ac589192 : (fI (F589184 q589117) 10).toInt = p589139.toInt := by rw [he589187]; rfl
  have r589193 : gm_0 6 (gm_0 1 q589121) = gm_0 6 fo := by rw [hfo1]
  refine G_aload_n 0 dr_cX17_look_5 rfl ?_
  have fq589194 : fI (F589184 q589117) 9 = p589138 := by rw [he589187]; rfl
  refine Gp_get 9 hm589134 he589187 dr_cX17_look_6 (gk_X17 D I) (Nat.le_of_ble_eq_true rfl) wr_7_83 rfl ?_
  have bp589138 : gB p589138 0 1 := (hB589179.1)
  refine G_if_ne 18 dr_cX17_look_9 (by decide +kernel) (fun hc589195 => ?_) (fun hc589195 => ?_)
  · have r589196 : p589138.toInt ≠ 0 := gj_neq hc589195 (show Int32.toInt 0 = 0 by decide)
    have bp589138' : gB p589138 1 1 := gB_t1 bp589138 r589196
    refine G_iload_n 2 dr_cX17_look_18 rfl ?_
    refine G_if_lt 27 dr_cX17_look_19 (by decide +kernel) (fun hc589197 => ?_) (fun hc589197 => ?_)
    · have r589198 : p589119.toInt < 0 := gj_lt hc589197 (show Int32.toInt 0 = 0 by decide)
      have bp589119' : gB p589119 (-2147483648) (-1) := ⟨by omega, by omega⟩
      refine G_aload_n 0 dr_cX17_look_27 rfl ?_
      refine G_iconst 2 dr_cX17_look_28 (by decide +kernel) ?_
      refine Gw_callV (As := [.int 2]) (gV_ok D I) (ct_589203_SpillForgeModel_no l hl0 D I gm_0 el_0 P589115 F589184 q589117 2 hT589190 htq589117) dr_cX17_look_29 ⟨wr_7_191, wr_1_14, wr_7_194, by decide, rfl, (Nat.le_of_ble_eq_true rfl), (Nat.le_of_ble_eq_true rfl)⟩ wr_7_193 wr_p_73 hm589134 he589187 rfl (rm_zc pk589128) (rm_zs pk589128) (Nat.le_of_ble_eq_true rfl) (fun r589265 w589266 dc589262 ds589263 hp589264 => ?_) (fun _ _ _ _ _ z => z.elim)
      obtain ⟨F589270, rfl, rfl, hT589271, hs589272, hdc, hds, x589267, x589268, ht589269⟩ := hp589264
      have hs589273 := rSk_str hs589191 hT589271 hs589272 (by decide) (by decide) (by decide)
      have mk589274 : mKp (F589116 q589117) (F589270 q589117) := mKp_tr mk589188 x589268
      change G _ _ _ _ _ _ _ (.int 0 :: _) _ _ _
      refine G_widen (cs' := ((rPh gm_0 el_0 f - rPh γ0 el0 f) / 18)) (sl' := (rPh gm_0 el_0 f - rPh γ0 el0 f)) (rm_d0 hdc) (rm_d0 hds) ?_
      exact G_iretA dr_cX17_look_32 rfl (show ((rPh gm_0 el_0 f - rPh γ0 el0 f) / 18) ≤ (((387 * B + 6000) - rPh γ0 el0 f) / 18) by omega) (show (rPh gm_0 el_0 f - rPh γ0 el0 f) ≤ ((387 * B + 6000) - rPh γ0 el0 f) by omega) ⟨P589115, F589270, gm_0, el_0, 0, rfl, rfl, hs589273, ⟨by omega, by omega⟩, hB, (by have qa0 : Int32.toInt 0 = 0 := (by decide); omega), mk589274, (fun R c1 c2 c3 c4 c5 c6 c7 c8 c9 c10 c11 c12 => c1 gm_0 el_0 F589184 p589138 F589270 hγ0 hel0 n589186 fq589189 fq589194 r589196 r589198 hT589271 hs589272 x589267 x589268 ht589269)⟩
    · have r589275 : 0 ≤ p589119.toInt := gj_nlt hc589197 (show Int32.toInt 0 = 0 by decide)
      have bp589119' : gB p589119 0 2147483647 := ⟨by omega, by omega⟩
      refine G_iload_n 2 dr_cX17_look_22 rfl ?_
      refine G_iconst 3 dr_cX17_look_23 (by decide +kernel) ?_
      refine G_icmp_le 33 dr_cX17_look_24 (by decide +kernel) (fun hc589276 => ?_) (fun hc589276 => ?_)
      · have r589277 : p589119.toInt ≤ 3 := gj_le hc589276 (show Int32.toInt 3 = 3 by decide)
        have bp589119'' : gB p589119 0 3 := ⟨by omega, by omega⟩
        refine G_iload_n 2 dr_cX17_look_33 rfl ?_
        refine G_iconst 1 dr_cX17_look_34 (by decide +kernel) ?_
        refine G_icmp_le 100 dr_cX17_look_35 (by decide +kernel) (fun hc589278 => ?_) (fun hc589278 => ?_)
        · have r589279 : p589119.toInt ≤ 1 := gj_le hc589278 (show Int32.toInt 1 = 1 by decide)
          have bp589119''' : gB p589119 0 1 := ⟨by omega, by omega⟩
          refine G_aload_n 0 dr_cX17_look_100 rfl ?_
          refine G_aload_n 0 dr_cX17_look_101 rfl ?_
          have fq589280 : fR (F589184 q589117) 6 = (gm_0 9 6) := by rw [he589187]; rfl
          refine Gp_get 6 hm589134 he589187 dr_cX17_look_102 (gk_X17 D I) (Nat.le_of_ble_eq_true rfl) wr_7_80 rfl ?_
          rw [show gm_0 9 6 = q589121 from (congrFun (rSk_9 hs589191) 6).trans hvq589121]
          refine G_iconst 0 dr_cX17_look_105 (by decide +kernel) ?_
          refine Gw_callV (As := [.ref q589121, .int 0]) (gV_ok D I) (ct_277516_SpillForgeModel_graph l hl0 D I gm_0 el_0 P589115 F589184 q589117 q589121 0 hT589190 htq589117 htq589121 (gB_w (gBl (show Int32.toInt 0 = 0 by decide)) (by decide) (by decide)) (by omega)) dr_cX17_look_106 ⟨wr_10_233, wr_1_14, wr_10_236, by decide, rfl, (Nat.le_of_ble_eq_true rfl), (Nat.le_of_ble_eq_true rfl)⟩ wr_10_235 wr_p_99 hm589134 he589187 rfl (rm_zc pk589128) (rm_zs pk589128) (Nat.le_of_ble_eq_true rfl) (fun r589284 w589285 dc589281 ds589282 hp589283 => ?_) (fun _ _ _ _ _ z => z.elim)
          obtain ⟨F589289, rfl, rfl, hT589290, hs589291, hdc, hds, x589286, x589287, ht589288⟩ := hp589283
          have hs589292 := rSk_str hs589191 hT589290 hs589291 (by decide) (by decide) (by decide)
          have kp589293 : F589289 q589117 = F589184 q589117 := x589287
          have mk589294 : mKp (F589116 q589117) (F589289 q589117) := mKp_tr mk589188 (mKp_eq x589287)
          have he589295 : F589289 q589117 = .inr (22, [.ref (gm_0 9 0), .ref (gm_0 9 1), .ref (gm_0 9 2), .ref (gm_0 9 3), .ref (gm_0 9 4), .ref (gm_0 9 5), .ref (gm_0 9 6), .ref (gm_0 9 7), .ref (gm_0 9 8), .int p589138, .int p589139, .int p589140, .int p589141, .int p589142, .int p589143, .ref (gm_0 9 15), .ref (gm_0 9 16), .ref (gm_0 9 17), .ref (gm_0 9 18), .ref (gm_0 9 19), .ref (gm_0 9 20), .ref (gm_0 9 21), .ref (gm_0 9 22), .int p589144, .int p589145, .int p589146, .int p589147, .int p589148, .ref q589136, .ref (gm_0 9 29), .int 0, .ref (gm_0 9 31), .int p589150, .int p589151, .int p589152, .ref q589137]) := (x589287).trans he589187
          rw [show Int32.toInt 0 = 0 from by decide] at x589286
          change G _ _ _ _ _ _ _ _ _ _ _
          refine G_widen (cs' := ((rPh gm_0 el_0 f - rPh γ0 el0 f) / 18)) (sl' := (rPh gm_0 el_0 f - rPh γ0 el0 f)) (rm_d0 hdc) (rm_d0 hds) ?_
          refine G_iload_n 1 dr_cX17_look_109 rfl ?_
          refine G_if_lt 129 dr_cX17_look_110 (by decide +kernel) (fun hc589296 => ?_) (fun hc589296 => ?_)
          · have r589297 : p589118.toInt < 0 := gj_lt hc589296 (show Int32.toInt 0 = 0 by decide)
            have bp589118' : gB p589118 (-2147483648) (-1) := ⟨by omega, by omega⟩
            have ac589298 : (fI (F589289 q589117) 10).toInt = (fI (F589184 q589117) 10).toInt := by rw [kp589293]
            refine G_aload_n 0 dr_cX17_look_129 rfl ?_
            refine G_iconst 3 dr_cX17_look_130 (by decide +kernel) ?_
            refine Gw_callV (As := [.int 3]) (gV_ok D I) (ct_589203_SpillForgeModel_no l hl0 D I gm_0 el_0 P589115 F589289 q589117 3 hT589290 htq589117) dr_cX17_look_131 ⟨wr_7_191, wr_1_14, wr_7_194, by decide, rfl, (Nat.le_of_ble_eq_true rfl), (Nat.le_of_ble_eq_true rfl)⟩ wr_7_193 wr_p_73 hm589134 he589295 rfl (rm_zc pk589128) (rm_zs pk589128) (Nat.le_of_ble_eq_true rfl) (fun r589302 w589303 dc589299 ds589300 hp589301 => ?_) (fun _ _ _ _ _ z => z.elim)
            obtain ⟨F589307, rfl, rfl, hT589308, hs589309, hdc, hds, x589304, x589305, ht589306⟩ := hp589301
            have hs589310 := rSk_str hs589292 hT589308 hs589309 (by decide) (by decide) (by decide)
            have mk589311 : mKp (F589116 q589117) (F589307 q589117) := mKp_tr mk589294 x589305
            change G _ _ _ _ _ _ _ (.int 0 :: _) _ _ _
            refine G_widen (cs' := ((rPh gm_0 el_0 f - rPh γ0 el0 f) / 18)) (sl' := (rPh gm_0 el_0 f - rPh γ0 el0 f)) (rm_d0 hdc) (rm_d0 hds) ?_
            exact G_iretA dr_cX17_look_134 rfl (show ((rPh gm_0 el_0 f - rPh γ0 el0 f) / 18) ≤ (((387 * B + 6000) - rPh γ0 el0 f) / 18) by omega) (show (rPh gm_0 el_0 f - rPh γ0 el0 f) ≤ ((387 * B + 6000) - rPh γ0 el0 f) by omega) ⟨P589115, F589307, gm_0, el_0, 0, rfl, rfl, hs589310, ⟨by omega, by omega⟩, hB, (by have qa0 : Int32.toInt 0 = 0 := (by decide); omega), mk589311, (fun R c1 c2 c3 c4 c5 c6 c7 c8 c9 c10 c11 c12 => c2 gm_0 el_0 F589184 p589138 F589289 F589307 hγ0 hel0 n589186 fq589189 fq589194 r589196 r589275 r589277 r589279 fq589280 hT589290 hs589291 x589286 x589287 ht589288 r589297 hT589308 hs589309 x589304 x589305 ht589306)⟩
          · have r589312 : 0 ≤ p589118.toInt := gj_nlt hc589296 (show Int32.toInt 0 = 0 by decide)
            have bp589118' : gB p589118 0 2147483647 := ⟨by omega, by omega⟩
            refine G_iload_n 1 dr_cX17_look_113 rfl ?_
            refine G_sipush 2000 dr_cX17_look_114 (by decide +kernel) ?_
            refine G_icmp_ge 129 dr_cX17_look_117 (by decide +kernel) (fun hc589313 => ?_) (fun hc589313 => ?_)
            · have r589314 : 2000 ≤ p589118.toInt := gj_leL hc589313 (show Int32.toInt 2000 = 2000 by decide)
              have bp589118'' : gB p589118 2000 2147483647 := ⟨by omega, by omega⟩
              have ac589315 : (fI (F589289 q589117) 10).toInt = (fI (F589184 q589117) 10).toInt := by rw [kp589293]
              refine G_aload_n 0 dr_cX17_look_129 rfl ?_
              refine G_iconst 3 dr_cX17_look_130 (by decide +kernel) ?_
              refine Gw_callV (As := [.int 3]) (gV_ok D I) (ct_589203_SpillForgeModel_no l hl0 D I gm_0 el_0 P589115 F589289 q589117 3 hT589290 htq589117) dr_cX17_look_131 ⟨wr_7_191, wr_1_14, wr_7_194, by decide, rfl, (Nat.le_of_ble_eq_true rfl), (Nat.le_of_ble_eq_true rfl)⟩ wr_7_193 wr_p_73 hm589134 he589295 rfl (rm_zc pk589128) (rm_zs pk589128) (Nat.le_of_ble_eq_true rfl) (fun r589319 w589320 dc589316 ds589317 hp589318 => ?_) (fun _ _ _ _ _ z => z.elim)
              obtain ⟨F589324, rfl, rfl, hT589325, hs589326, hdc, hds, x589321, x589322, ht589323⟩ := hp589318
              have hs589327 := rSk_str hs589292 hT589325 hs589326 (by decide) (by decide) (by decide)
              have mk589328 : mKp (F589116 q589117) (F589324 q589117) := mKp_tr mk589294 x589322
              change G _ _ _ _ _ _ _ (.int 0 :: _) _ _ _
              refine G_widen (cs' := ((rPh gm_0 el_0 f - rPh γ0 el0 f) / 18)) (sl' := (rPh gm_0 el_0 f - rPh γ0 el0 f)) (rm_d0 hdc) (rm_d0 hds) ?_
              exact G_iretA dr_cX17_look_134 rfl (show ((rPh gm_0 el_0 f - rPh γ0 el0 f) / 18) ≤ (((387 * B + 6000) - rPh γ0 el0 f) / 18) by omega) (show (rPh gm_0 el_0 f - rPh γ0 el0 f) ≤ ((387 * B + 6000) - rPh γ0 el0 f) by omega) ⟨P589115, F589324, gm_0, el_0, 0, rfl, rfl, hs589327, ⟨by omega, by omega⟩, hB, (by have qa0 : Int32.toInt 0 = 0 := (by decide); omega), mk589328, (fun R c1 c2 c3 c4 c5 c6 c7 c8 c9 c10 c11 c12 => c3 gm_0 el_0 F589184 p589138 F589289 F589324 hγ0 hel0 n589186 fq589189 fq589194 r589196 r589275 r589277 r589279 fq589280 hT589290 hs589291 x589286 x589287 ht589288 r589312 r589314 hT589325 hs589326 x589321 x589322 ht589323)⟩
            · have r589329 : p589118.toInt < 2000 := gj_nleL hc589313 (show Int32.toInt 2000 = 2000 by decide)
              have bp589118'' : gB p589118 0 1999 := ⟨by omega, by omega⟩
              refine G_aload_n 0 dr_cX17_look_120 rfl ?_
              have fq589330 : fR (F589289 q589117) 3 = (gm_0 9 3) := by rw [he589295]; rfl
              refine Gp_get 3 hm589134 he589295 dr_cX17_look_121 (gk_X17 D I) (Nat.le_of_ble_eq_true rfl) wr_7_77 rfl ?_
              refine G_iload_n 1 dr_cX17_look_124 rfl ?_
              have hm589331 : (gm_0 9 3) ∈ P589115 := RS_m hT589290 ht589158 (by decide)
              obtain ⟨f589333, he589332, bf589333⟩ := show rk_14 I (F589289 (gm_0 9 3)) from RS_o hT589290 ht589158
              refine Gp_zald 3 hm589331 he589332 dr_cX17_look_125 rfl (gB_in bp589118'' (by decide) (by decide)) (G_nam fun z589334 hz589334 => ?_)
              have bz589334 : gB z589334 0 1 := by rw [hz589334]; exact bf589333 _
              refine G_if_ne 135 dr_cX17_look_126 (by decide +kernel) (fun hc589335 => ?_) (fun hc589335 => ?_)
              · have r589336 : z589334.toInt ≠ 0 := gj_neq hc589335 (show Int32.toInt 0 = 0 by decide)
                have bz589334' : gB z589334 1 1 := gB_t1 bz589334 r589336
                refine G_aload_n 0 dr_cX17_look_135 rfl ?_
                have fq589337 : fR (F589289 q589117) 8 = (gm_0 9 8) := by rw [he589295]; rfl
                refine Gp_get 8 hm589134 he589295 dr_cX17_look_136 (gk_X17 D I) (Nat.le_of_ble_eq_true rfl) wr_7_82 rfl ?_
                rw [show gm_0 9 8 = q589120 from (congrFun (rSk_9 hs589292) 8).trans hvq589120]
                refine G_aload_n 0 dr_cX17_look_139 rfl ?_
                have fq589338 : fR (F589289 q589117) 6 = (gm_0 9 6) := by rw [he589295]; rfl
                refine Gp_get 6 hm589134 he589295 dr_cX17_look_140 (gk_X17 D I) (Nat.le_of_ble_eq_true rfl) wr_7_80 rfl ?_
                rw [show gm_0 9 6 = q589121 from (congrFun (rSk_9 hs589292) 6).trans hvq589121]
                have rg589339 := rM_ge hT589290 htq589120 hf1
                have rm589340 := rM_bd hB
                have bd589341 := rBd_c hT589290 htq589120 hf1 hB
                have rc589342 := rc_at hT589290 htq589120 hf1
                have hm589348 : q589120 ∈ P589115 := RS_m hT589290 htq589120 (by decide)
                obtain ⟨q589350, q589351, p589352, p589353, he589349, ht589369, ht589354, ht589355, ht589356, ht589357, r589358, r589359, r589360, r589361, r589362, r589363, r589364, r589365, r589366, r589367, r589368⟩ := show rk_9 gm_0 el_0 q589120 (F589289 q589120) from RS_o hT589290 htq589120
                have bp589352 : gB p589352 0 1000000 := ⟨by omega, by omega⟩
                have bp589353 : gB p589353 0 1000000 := ⟨by omega, by omega⟩
                have hf589370 : gm_0 1 q589350 = f := (show gm_0 1 q589350 = gm_0 1 q589120 from ht589355).trans hf1
                have hf589371 : gm_0 1 q589351 = f := (show gm_0 1 q589351 = gm_0 1 q589120 from ht589357).trans hf1
                have r589372 : gm_0 6 (gm_0 1 q589120) = gm_0 6 f := by rw [hf1]
                have r589373 : gm_0 16 (gm_0 1 q589120) = gm_0 16 f := by rw [hf1]
                refine Gw_callV (As := [.ref q589121]) (gV_ok D I) (cg_196630_Code_copy l hl0 D I gm_0 el_0 f fo B P589115 F589289 q589120 q589121 hT589290 htq589120 htq589121 hf1 hfo1 hne hB hBk (by omega) (by omega) (by omega)) dr_cX17_look_143 ⟨wr_10_132, wr_1_15, wr_10_135, by decide, rfl, (Nat.le_of_ble_eq_true rfl), (Nat.le_of_ble_eq_true rfl)⟩ wr_10_133 wr_10_134 hm589348 he589349 rfl (rm_gc hph pk589128) (rm_gs hph pk589128) (Nat.le_of_ble_eq_true rfl) (fun r589346 w589347 dc589343 ds589344 hp589345 => ?_) (fun _ _ _ _ _ z => z.elim)
                obtain ⟨P589379, F589380, gm_F589380, el_F589380, rfl, rfl, hk589381, ⟨hr589382, hr589383⟩, hB589384, x589374, x589375, x589376, x589377, ht589378⟩ := hp589345
                have hT589385 := hk589381.1
                have hs589386 := rSk_tr hs589292 hk589381 (by decide) (by decide) (by decide)
                have kp589387 : F589380 q589117 = F589184 q589117 := (rSk_F hk589381 htq589117 (by decide) (by decide)).trans kp589293
                have r589388 := rSk_F hk589381 htq589117 (by decide) (by decide)
                have ht589389 : rKd gm_F589380 q589117 10 := rSk_k hk589381 htq589117 (by decide) (by decide)
                have ht589390 : rKd gm_F589380 q589120 9 := rSk_k hk589381 htq589120 (by decide) (by decide)
                have hf589391 : gm_F589380 1 q589120 = f := rSk_1 hk589381 htq589120 (by decide) hf1
                have ht589392 : rKd gm_F589380 q589121 9 := rSk_kf hk589381 htq589121 (by decide) (by rw [hfo1]; exact hne)
                have hf589393 : gm_F589380 1 q589121 = fo := rSk_1 hk589381 htq589121 (by decide) hfo1
                have mk589394 : mKp (F589116 q589117) (F589380 q589117) := mKp_tr mk589294 (mKp_eq (rSk_F hk589381 htq589117 (by decide) (by decide)))
                clear r589358 r589359 r589360 r589361 r589362 r589363 r589365 r589366 r589367 r589368 bp589352 bp589353 rg589339 rm589340 bd589341 rc589342
                clear r589364
                have hph589395 : rPh γ0 el0 f ≤ rPh gm_F589380 el_F589380 f := rm_ph hph hr589383
                have pk589396 : rPh gm_F589380 el_F589380 f ≤ 387 * B + 6000 := rm_pk (rM_ge hT589385 ht589390 hf589391).1 (rM_bd hB589384)
                change G _ _ _ _ _ _ _ _ _ _ _
                refine G_widen (cs' := ((rPh gm_F589380 el_F589380 f - rPh γ0 el0 f) / 18)) (sl' := (rPh gm_F589380 el_F589380 f - rPh γ0 el0 f)) (rm_wc hph hr589382) (rm_ws hph hr589383) ?_
                have r589397 := rSk_g hs589386 hne
                have r589398 : gm_F589380 6 fo = γ0 6 fo := r589397.1
                have r589399 : gm_F589380 7 fo = γ0 7 fo := r589397.2.1
                have r589400 : gm_F589380 16 fo = γ0 16 fo := r589397.2.2.1
                have r589401 : 0 < gm_F589380 6 (gm_F589380 1 q589120) := by rw [hf589391]; omega
                have r589402 : gm_F589380 6 (gm_F589380 1 q589121) = gm_F589380 6 fo := by rw [hf589393]
                refine G_aload_n 0 dr_cX17_look_146 rfl ?_
                refine G_aload_n 0 dr_cX17_look_147 rfl ?_
                have hm589403 : q589117 ∈ P589379 := RS_m hT589385 ht589389 (by decide)
                refine rk10_e (show rk_10 gm_F589380 (F589380 q589117) from RS_o hT589385 ht589389) (fun q589405 q589406 p589407 p589408 p589409 p589410 p589411 p589412 p589413 p589414 p589415 p589416 p589417 p589418 p589419 p589420 p589421 he589404 hB589448 ht589422 ht589423 ht589424 ht589425 ht589426 ht589427 ht589428 ht589429 ht589430 ht589431 ht589432 ht589433 ht589434 ht589435 ht589436 ht589437 ht589438 ht589439 ht589440 ht589441 ht589442 ht589443 ht589444 ht589445 hB589449 => ?_)
                have fq589450 : fR (F589380 q589117) 8 = (gm_F589380 9 8) := by rw [he589404]; rfl
                refine Gp_get 8 hm589403 he589404 dr_cX17_look_148 (gk_X17 D I) (Nat.le_of_ble_eq_true rfl) wr_7_82 rfl ?_
                rw [show gm_F589380 9 8 = q589120 from (congrFun (rSk_9 hs589386) 8).trans hvq589120]
                have rg589451 := rM_ge hT589385 ht589390 hf589391
                have rm589452 := rM_bd hB589384
                have bd589453 := rBd_c hT589385 ht589390 hf589391 hB589384
                have rc589454 := rc_at hT589385 ht589390 hf589391
                refine Gw_callV (As := [.ref q589120]) (gV_ok D I) (cg_366456_SpillForgeModel_zeros l hl0 D I gm_F589380 el_F589380 f B P589379 F589380 q589117 q589120 hT589385 ht589389 ht589390 hf589391 hB589384 hBk (by omega) (by omega)) dr_cX17_look_151 ⟨wr_10_152, wr_1_14, wr_10_155, by decide, rfl, (Nat.le_of_ble_eq_true rfl), (Nat.le_of_ble_eq_true rfl)⟩ wr_10_154 wr_p_93 hm589403 he589404 rfl (rm_gc hph589395 pk589396) (rm_gs hph589395 pk589396) (Nat.le_of_ble_eq_true rfl) (fun r589458 w589459 dc589455 ds589456 hp589457 => ?_) (fun _ _ _ _ _ z => z.elim)
                obtain ⟨P589466, F589467, gm_F589467, el_F589467, rfl, rfl, hk589468, ⟨hr589469, hr589470⟩, hB589471, x589460, x589461, x589462, x589463, x589464, ht589465⟩ := hp589457
                have hT589472 := hk589468.1
                have hs589473 := rSk_tr hs589386 hk589468 (by decide) (by decide) (by decide)
                have ht589474 : rKd gm_F589467 q589117 10 := rSk_k hk589468 ht589389 (by decide) (by decide)
                have ht589475 : rKd gm_F589467 q589120 9 := rSk_k hk589468 ht589390 (by decide) (by decide)
                have hf589476 : gm_F589467 1 q589120 = f := rSk_1 hk589468 ht589390 (by decide) hf589391
                have ht589477 : rKd gm_F589467 q589121 9 := rSk_kf hk589468 ht589392 (by decide) (by rw [hf589393]; exact hne)
                have hf589478 : gm_F589467 1 q589121 = fo := rSk_1 hk589468 ht589392 (by decide) hf589393
                clear rg589451 rm589452 bd589453 rc589454
                have mk589479 : mKp (F589116 q589117) (F589467 q589117) := mKp_tr mk589394 (mKp_eq x589464)
                have hph589480 : rPh γ0 el0 f ≤ rPh gm_F589467 el_F589467 f := rm_ph hph589395 hr589470
                have pk589481 : rPh gm_F589467 el_F589467 f ≤ 387 * B + 6000 := rm_pk (rM_ge hT589472 ht589475 hf589476).1 (rM_bd hB589471)
                change G _ _ _ _ _ _ _ _ _ _ _
                refine G_widen (cs' := ((rPh gm_F589467 el_F589467 f - rPh γ0 el0 f) / 18)) (sl' := (rPh gm_F589467 el_F589467 f - rPh γ0 el0 f)) (rm_wc hph589395 hr589469) (rm_ws hph589395 hr589470) ?_
                have r589482 := rSk_g hs589473 hne
                have r589483 : gm_F589467 6 fo = γ0 6 fo := r589482.1
                have r589484 : gm_F589467 7 fo = γ0 7 fo := r589482.2.1
                have r589485 : gm_F589467 16 fo = γ0 16 fo := r589482.2.2.1
                have r589486 : 0 < gm_F589467 6 (gm_F589467 1 q589120) := by rw [hf589476]; omega
                have r589487 : gm_F589467 6 (gm_F589467 1 q589121) = gm_F589467 6 fo := by rw [hf589478]
                refine G_aload_n 0 dr_cX17_look_154 rfl ?_
                refine G_aload_n 0 dr_cX17_look_155 rfl ?_
                have hm589488 : q589117 ∈ P589466 := RS_m hT589472 ht589474 (by decide)
                refine rk10_e (show rk_10 gm_F589467 (F589467 q589117) from RS_o hT589472 ht589474) (fun q589490 q589491 p589492 p589493 p589494 p589495 p589496 p589497 p589498 p589499 p589500 p589501 p589502 p589503 p589504 p589505 p589506 he589489 hB589533 ht589507 ht589508 ht589509 ht589510 ht589511 ht589512 ht589513 ht589514 ht589515 ht589516 ht589517 ht589518 ht589519 ht589520 ht589521 ht589522 ht589523 ht589524 ht589525 ht589526 ht589527 ht589528 ht589529 ht589530 hB589534 => ?_)
                have fq589535 : fR (F589467 q589117) 8 = (gm_F589467 9 8) := by rw [he589489]; rfl
                refine Gp_get 8 hm589488 he589489 dr_cX17_look_156 (gk_X17 D I) (Nat.le_of_ble_eq_true rfl) wr_7_82 rfl ?_
                rw [show gm_F589467 9 8 = q589120 from (congrFun (rSk_9 hs589473) 8).trans hvq589120]
                refine G_iconst 0 dr_cX17_look_159 (by decide +kernel) ?_
                refine Gw_callV (As := [.ref q589120, .int 0]) (gV_ok D I) (ct_277516_SpillForgeModel_graph l hl0 D I gm_F589467 el_F589467 P589466 F589467 q589117 q589120 0 hT589472 ht589474 ht589475 (gB_w (gBl (show Int32.toInt 0 = 0 by decide)) (by decide) (by decide)) (by omega)) dr_cX17_look_160 ⟨wr_10_233, wr_1_14, wr_10_236, by decide, rfl, (Nat.le_of_ble_eq_true rfl), (Nat.le_of_ble_eq_true rfl)⟩ wr_10_235 wr_p_99 hm589488 he589489 rfl (rm_zc pk589481) (rm_zs pk589481) (Nat.le_of_ble_eq_true rfl) (fun r589539 w589540 dc589536 ds589537 hp589538 => ?_) (fun _ _ _ _ _ z => z.elim)
                obtain ⟨F589544, rfl, rfl, hT589545, hs589546, hdc, hds, x589541, x589542, ht589543⟩ := hp589538
                have hs589547 := rSk_str hs589473 hT589545 hs589546 (by decide) (by decide) (by decide)
                have kp589548 : F589544 q589117 = F589184 q589117 := (x589542).trans (x589464.trans kp589387)
                have mk589549 : mKp (F589116 q589117) (F589544 q589117) := mKp_tr mk589479 (mKp_eq x589542)
                have he589550 : F589544 q589117 = .inr (22, [.ref (gm_F589467 9 0), .ref (gm_F589467 9 1), .ref (gm_F589467 9 2), .ref (gm_F589467 9 3), .ref (gm_F589467 9 4), .ref (gm_F589467 9 5), .ref (gm_F589467 9 6), .ref (gm_F589467 9 7), .ref (gm_F589467 9 8), .int p589492, .int p589493, .int p589494, .int p589495, .int p589496, .int p589497, .ref (gm_F589467 9 15), .ref (gm_F589467 9 16), .ref (gm_F589467 9 17), .ref (gm_F589467 9 18), .ref (gm_F589467 9 19), .ref (gm_F589467 9 20), .ref (gm_F589467 9 21), .ref (gm_F589467 9 22), .int p589498, .int p589499, .int p589500, .int p589501, .int p589502, .ref q589490, .ref (gm_F589467 9 29), .int p589503, .ref (gm_F589467 9 31), .int p589504, .int p589505, .int p589506, .ref q589491]) := (x589542).trans he589489
                rw [show Int32.toInt 0 = 0 from by decide] at x589541
                change G _ _ _ _ _ _ _ _ _ _ _
                refine G_widen (cs' := ((rPh gm_F589467 el_F589467 f - rPh γ0 el0 f) / 18)) (sl' := (rPh gm_F589467 el_F589467 f - rPh γ0 el0 f)) (rm_d0 hdc) (rm_d0 hds) ?_
                refine G_aload_n 0 dr_cX17_look_163 rfl ?_
                refine G_aload_n 0 dr_cX17_look_164 rfl ?_
                have fq589551 : fR (F589544 q589117) 8 = (gm_F589467 9 8) := by rw [he589550]; rfl
                refine Gp_get 8 hm589488 he589550 dr_cX17_look_165 (gk_X17 D I) (Nat.le_of_ble_eq_true rfl) wr_7_82 rfl ?_
                rw [show gm_F589467 9 8 = q589120 from (congrFun (rSk_9 hs589547) 8).trans hvq589120]
                refine Gw_callV (As := [.ref q589120]) (gV_ok D I) (ct_409908_SpillForgeModel_weigh l hl0 D I gm_F589467 el_F589467 P589466 F589544 q589117 q589120 hT589545 ht589474 ht589475 (by omega)) dr_cX17_look_168 ⟨wr_11_33, wr_1_14, wr_11_36, by decide, rfl, (Nat.le_of_ble_eq_true rfl), (Nat.le_of_ble_eq_true rfl)⟩ wr_11_35 wr_p_104 hm589488 he589550 rfl (rm_zc pk589481) (rm_zs pk589481) (Nat.le_of_ble_eq_true rfl) (fun r589555 w589556 dc589552 ds589553 hp589554 => ?_) (fun _ _ _ _ _ z => z.elim)
                obtain ⟨F589560, rfl, rfl, hT589561, hs589562, hdc, hds, x589557, x589558, ht589559⟩ := hp589554
                have hs589563 := rSk_str hs589547 hT589561 hs589562 (by decide) (by decide) (by decide)
                have kp589564 : F589560 q589117 = F589184 q589117 := (x589557).trans kp589548
                have mk589565 : mKp (F589116 q589117) (F589560 q589117) := mKp_tr mk589549 (mKp_eq x589557)
                have he589566 : F589560 q589117 = .inr (22, [.ref (gm_F589467 9 0), .ref (gm_F589467 9 1), .ref (gm_F589467 9 2), .ref (gm_F589467 9 3), .ref (gm_F589467 9 4), .ref (gm_F589467 9 5), .ref (gm_F589467 9 6), .ref (gm_F589467 9 7), .ref (gm_F589467 9 8), .int p589492, .int p589493, .int p589494, .int p589495, .int p589496, .int p589497, .ref (gm_F589467 9 15), .ref (gm_F589467 9 16), .ref (gm_F589467 9 17), .ref (gm_F589467 9 18), .ref (gm_F589467 9 19), .ref (gm_F589467 9 20), .ref (gm_F589467 9 21), .ref (gm_F589467 9 22), .int p589498, .int p589499, .int p589500, .int p589501, .int p589502, .ref q589490, .ref (gm_F589467 9 29), .int p589503, .ref (gm_F589467 9 31), .int p589504, .int p589505, .int p589506, .ref q589491]) := (x589557).trans he589550
                change G _ _ _ _ _ _ _ _ _ _ _
                refine G_widen (cs' := ((rPh gm_F589467 el_F589467 f - rPh γ0 el0 f) / 18)) (sl' := (rPh gm_F589467 el_F589467 f - rPh γ0 el0 f)) (rm_d0 hdc) (rm_d0 hds) ?_
                refine G_iload_n 2 dr_cX17_look_171 rfl ?_
                refine G_if_ne 184 dr_cX17_look_172 (by decide +kernel) (fun hc589567 => ?_) (fun hc589567 => ?_)
                · have r589568 : p589119.toInt ≠ 0 := gj_neq hc589567 (show Int32.toInt 0 = 0 by decide)
                  have bp589119'''' : gB p589119 1 1 := gB_t1 bp589119''' r589568
                  refine G_aload_n 0 dr_cX17_look_184 rfl ?_
                  have fq589569 : fR (F589560 q589117) 1 = (gm_F589467 9 1) := by rw [he589566]; rfl
                  refine Gp_get 1 hm589488 he589566 dr_cX17_look_185 (gk_X17 D I) (Nat.le_of_ble_eq_true rfl) wr_7_75 rfl ?_
                  refine G_iload_n 1 dr_cX17_look_188 rfl ?_
                  have hm589570 : (gm_F589467 9 1) ∈ P589466 := RS_m hT589561 ht589510 (by decide)
                  obtain ⟨f589572, he589571, hg589573⟩ := show rk_13 I gm_F589467 (F589560 (gm_F589467 9 1)) from RS_o hT589561 ht589510
                  obtain ⟨q589574, hx589576⟩ : ∃ x, x = gm_F589467 11 p589118.toInt.toNat := ⟨_, rfl⟩
                  have ht589575 : rKd gm_F589467 q589574 36 := by rw [hx589576]; exact (hg589573 _ (show p589118.toInt.toNat < 2000 by omega)).2.1
                  refine Gp_aald 5 hm589570 he589571 dr_cX17_look_189 rfl rfl (gB_in bp589118'' (by decide) (by decide)) ?_
                  rw [show f589572 p589118.toNatClampNeg = some q589574 from (hg589573 _ (show p589118.toInt.toNat < 2000 by omega)).1.trans (by rw [hx589576])]
                  change G _ _ _ _ _ _ _ (.ref q589574 :: _) _ _ _
                  have hm589577 : q589574 ∈ P589466 := RS_m hT589561 ht589575 (by decide)
                  obtain ⟨f589579, he589578, wf589579⟩ := show rk_36 I (F589560 q589574) from RS_o hT589561 ht589575
                  refine Gw_callS (As := [.ref q589574]) (gV_ok D I) (cp_1899_SpillForgeModel_count l hl0 D I P589466 F589560 q589574 f589579 hm589577 he589578) dr_cX17_look_190 ⟨wr_11_16, wr_1_14, wr_11_18, by decide, rfl, (Nat.le_of_ble_eq_true rfl), (Nat.le_of_ble_eq_true rfl)⟩ wr_11_17 (rm_zc pk589481) (rm_zs pk589481) (Nat.le_of_ble_eq_true rfl) (fun r589583 w589584 dc589580 ds589581 hp589582 => ?_) (fun _ _ _ _ _ z => z.elim)
                  obtain ⟨o589585, rfl, rfl, hdc, hds, ht589586⟩ := hp589582
                  have bo589585 := gB_any o589585
                  change G _ _ _ _ _ _ _ (.int o589585 :: _) _ _ _
                  refine G_widen (cs' := ((rPh gm_F589467 el_F589467 f - rPh γ0 el0 f) / 18)) (sl' := (rPh gm_F589467 el_F589467 f - rPh γ0 el0 f)) (rm_d0 hdc) (rm_d0 hds) ?_
                  have ac589587 : (fI (F589560 q589117) 10).toInt = (fI (F589184 q589117) 10).toInt := by rw [kp589564]
                  exact G_iretA dr_cX17_look_193 rfl (show ((rPh gm_F589467 el_F589467 f - rPh γ0 el0 f) / 18) ≤ (((387 * B + 6000) - rPh γ0 el0 f) / 18) by omega) (show (rPh gm_F589467 el_F589467 f - rPh γ0 el0 f) ≤ ((387 * B + 6000) - rPh γ0 el0 f) by omega) ⟨P589466, F589560, gm_F589467, el_F589467, o589585, rfl, rfl, hs589563, ⟨by omega, by omega⟩, hB589471, (by omega), mk589565, (fun R c1 c2 c3 c4 c5 c6 c7 c8 c9 c10 c11 c12 => c4 gm_0 el_0 F589184 p589138 F589289 f589333 z589334 P589379 F589380 gm_F589380 el_F589380 P589466 F589467 gm_F589467 el_F589467 F589544 F589560 q589574 f589579 o589585 hγ0 hel0 n589186 fq589189 fq589194 r589196 r589275 r589277 r589279 fq589280 hT589290 hs589291 x589286 x589287 ht589288 r589312 r589329 fq589330 he589332 hz589334 bz589334 r589336 fq589337 fq589338 hk589381 x589374 x589375 x589376 x589377 ht589378 fq589450 hk589468 x589460 x589461 x589462 x589463 x589464 ht589465 fq589535 hT589545 hs589546 x589541 x589542 ht589543 fq589551 hT589561 hs589562 x589557 x589558 ht589559 r589568 fq589569 hx589576 he589578 ht589586)⟩
                · have r589588 : p589119.toInt = 0 := gj_eq hc589567 (show Int32.toInt 0 = 0 by decide)
                  have bp589119'''' : gB p589119 0 0 := gB_t0 r589588
                  refine G_aload_n 0 dr_cX17_look_175 rfl ?_
                  have fq589589 : fR (F589560 q589117) 5 = (gm_F589467 9 5) := by rw [he589566]; rfl
                  refine Gp_get 5 hm589488 he589566 dr_cX17_look_176 (gk_X17 D I) (Nat.le_of_ble_eq_true rfl) wr_7_79 rfl ?_
                  refine G_iload_n 1 dr_cX17_look_179 rfl ?_
                  have hm589590 : (gm_F589467 9 5) ∈ P589466 := RS_m hT589561 ht589514 (by decide)
                  obtain ⟨f589592, he589591⟩ := show rk_17 I (F589560 (gm_F589467 9 5)) from RS_o hT589561 ht589514
                  refine Gp_iald 0 hm589590 he589591 dr_cX17_look_180 rfl (gB_in bp589118'' (by decide) (by decide)) (G_nam fun z589593 hz589593 => ?_)
                  have bz589593 : gB z589593 (-2147483648) 2147483647 := gB_any z589593
                  refine G_goto 193 dr_cX17_look_181 (by decide +kernel) ?_
                  have ac589594 : (fI (F589560 q589117) 10).toInt = (fI (F589184 q589117) 10).toInt := by rw [kp589564]
                  exact G_iretA dr_cX17_look_193 rfl (show ((rPh gm_F589467 el_F589467 f - rPh γ0 el0 f) / 18) ≤ (((387 * B + 6000) - rPh γ0 el0 f) / 18) by omega) (show (rPh gm_F589467 el_F589467 f - rPh γ0 el0 f) ≤ ((387 * B + 6000) - rPh γ0 el0 f) by omega) ⟨P589466, F589560, gm_F589467, el_F589467, z589593, rfl, rfl, hs589563, ⟨by omega, by omega⟩, hB589471, (by omega), mk589565, (fun R c1 c2 c3 c4 c5 c6 c7 c8 c9 c10 c11 c12 => c5 gm_0 el_0 F589184 p589138 F589289 f589333 z589334 P589379 F589380 gm_F589380 el_F589380 P589466 F589467 gm_F589467 el_F589467 F589544 F589560 f589592 z589593 hγ0 hel0 n589186 fq589189 fq589194 r589196 r589275 r589277 r589279 fq589280 hT589290 hs589291 x589286 x589287 ht589288 r589312 r589329 fq589330 he589332 hz589334 bz589334 r589336 fq589337 fq589338 hk589381 x589374 x589375 x589376 x589377 ht589378 fq589450 hk589468 x589460 x589461 x589462 x589463 x589464 ht589465 fq589535 hT589545 hs589546 x589541 x589542 ht589543 fq589551 hT589561 hs589562 x589557 x589558 ht589559 r589588 fq589589 he589591 hz589593)⟩
              · have r589595 : z589334.toInt = 0 := gj_eq hc589335 (show Int32.toInt 0 = 0 by decide)
                have bz589334' : gB z589334 0 0 := gB_t0 r589595
                have ac589596 : (fI (F589289 q589117) 10).toInt = (fI (F589184 q589117) 10).toInt := by rw [kp589293]
                refine G_aload_n 0 dr_cX17_look_129 rfl ?_
                refine G_iconst 3 dr_cX17_look_130 (by decide +kernel) ?_
                refine Gw_callV (As := [.int 3]) (gV_ok D I) (ct_589203_SpillForgeModel_no l hl0 D I gm_0 el_0 P589115 F589289 q589117 3 hT589290 htq589117) dr_cX17_look_131 ⟨wr_7_191, wr_1_14, wr_7_194, by decide, rfl, (Nat.le_of_ble_eq_true rfl), (Nat.le_of_ble_eq_true rfl)⟩ wr_7_193 wr_p_73 hm589134 he589295 rfl (rm_zc pk589128) (rm_zs pk589128) (Nat.le_of_ble_eq_true rfl) (fun r589600 w589601 dc589597 ds589598 hp589599 => ?_) (fun _ _ _ _ _ z => z.elim)
                obtain ⟨F589605, rfl, rfl, hT589606, hs589607, hdc, hds, x589602, x589603, ht589604⟩ := hp589599
                have hs589608 := rSk_str hs589292 hT589606 hs589607 (by decide) (by decide) (by decide)
                have mk589609 : mKp (F589116 q589117) (F589605 q589117) := mKp_tr mk589294 x589603
                change G _ _ _ _ _ _ _ (.int 0 :: _) _ _ _
                refine G_widen (cs' := ((rPh gm_0 el_0 f - rPh γ0 el0 f) / 18)) (sl' := (rPh gm_0 el_0 f - rPh γ0 el0 f)) (rm_d0 hdc) (rm_d0 hds) ?_
                exact G_iretA dr_cX17_look_134 rfl (show ((rPh gm_0 el_0 f - rPh γ0 el0 f) / 18) ≤ (((387 * B + 6000) - rPh γ0 el0 f) / 18) by omega) (show (rPh gm_0 el_0 f - rPh γ0 el0 f) ≤ ((387 * B + 6000) - rPh γ0 el0 f) by omega) ⟨P589115, F589605, gm_0, el_0, 0, rfl, rfl, hs589608, ⟨by omega, by omega⟩, hB, (by have qa0 : Int32.toInt 0 = 0 := (by decide); omega), mk589609, (fun R c1 c2 c3 c4 c5 c6 c7 c8 c9 c10 c11 c12 => c6 gm_0 el_0 F589184 p589138 F589289 f589333 z589334 F589605 hγ0 hel0 n589186 fq589189 fq589194 r589196 r589275 r589277 r589279 fq589280 hT589290 hs589291 x589286 x589287 ht589288 r589312 r589329 fq589330 he589332 hz589334 bz589334 r589595 hT589606 hs589607 x589602 x589603 ht589604)⟩
        · have r589610 : 1 < p589119.toInt := gj_nle hc589278 (show Int32.toInt 1 = 1 by decide)
          have bp589119''' : gB p589119 2 3 := ⟨by omega, by omega⟩
          refine G_iload_n 1 dr_cX17_look_38 rfl ?_
          refine G_if_lt 53 dr_cX17_look_39 (by decide +kernel) (fun hc589611 => ?_) (fun hc589611 => ?_)
          · have r589612 : p589118.toInt < 0 := gj_lt hc589611 (show Int32.toInt 0 = 0 by decide)
            have bp589118' : gB p589118 (-2147483648) (-1) := ⟨by omega, by omega⟩
            refine G_aload_n 0 dr_cX17_look_53 rfl ?_
            refine G_iconst 3 dr_cX17_look_54 (by decide +kernel) ?_
            refine Gw_callV (As := [.int 3]) (gV_ok D I) (ct_589203_SpillForgeModel_no l hl0 D I gm_0 el_0 P589115 F589184 q589117 3 hT589190 htq589117) dr_cX17_look_55 ⟨wr_7_191, wr_1_14, wr_7_194, by decide, rfl, (Nat.le_of_ble_eq_true rfl), (Nat.le_of_ble_eq_true rfl)⟩ wr_7_193 wr_p_73 hm589134 he589187 rfl (rm_zc pk589128) (rm_zs pk589128) (Nat.le_of_ble_eq_true rfl) (fun r589616 w589617 dc589613 ds589614 hp589615 => ?_) (fun _ _ _ _ _ z => z.elim)
            obtain ⟨F589621, rfl, rfl, hT589622, hs589623, hdc, hds, x589618, x589619, ht589620⟩ := hp589615
            have hs589624 := rSk_str hs589191 hT589622 hs589623 (by decide) (by decide) (by decide)
            have mk589625 : mKp (F589116 q589117) (F589621 q589117) := mKp_tr mk589188 x589619
            change G _ _ _ _ _ _ _ (.int 0 :: _) _ _ _
            refine G_widen (cs' := ((rPh gm_0 el_0 f - rPh γ0 el0 f) / 18)) (sl' := (rPh gm_0 el_0 f - rPh γ0 el0 f)) (rm_d0 hdc) (rm_d0 hds) ?_
            exact G_iretA dr_cX17_look_58 rfl (show ((rPh gm_0 el_0 f - rPh γ0 el0 f) / 18) ≤ (((387 * B + 6000) - rPh γ0 el0 f) / 18) by omega) (show (rPh gm_0 el_0 f - rPh γ0 el0 f) ≤ ((387 * B + 6000) - rPh γ0 el0 f) by omega) ⟨P589115, F589621, gm_0, el_0, 0, rfl, rfl, hs589624, ⟨by omega, by omega⟩, hB, (by have qa0 : Int32.toInt 0 = 0 := (by decide); omega), mk589625, (fun R c1 c2 c3 c4 c5 c6 c7 c8 c9 c10 c11 c12 => c7 gm_0 el_0 F589184 p589138 F589621 hγ0 hel0 n589186 fq589189 fq589194 r589196 r589275 r589277 r589610 r589612 hT589622 hs589623 x589618 x589619 ht589620)⟩
          · have r589626 : 0 ≤ p589118.toInt := gj_nlt hc589611 (show Int32.toInt 0 = 0 by decide)
            have bp589118' : gB p589118 0 2147483647 := ⟨by omega, by omega⟩
            refine G_iload_n 1 dr_cX17_look_42 rfl ?_
            refine G_aload_n 0 dr_cX17_look_43 rfl ?_
            have fq589627 : fR (F589184 q589117) 6 = (gm_0 9 6) := by rw [he589187]; rfl
            refine Gp_get 6 hm589134 he589187 dr_cX17_look_44 (gk_X17 D I) (Nat.le_of_ble_eq_true rfl) wr_7_80 rfl ?_
            rw [show gm_0 9 6 = q589121 from (congrFun (rSk_9 hs589191) 6).trans hvq589121]
            have hm589628 : q589121 ∈ P589115 := RS_m hT589190 htq589121 (by decide)
            obtain ⟨q589630, q589631, p589632, p589633, he589629, ht589649, ht589634, ht589635, ht589636, ht589637, r589638, r589639, r589640, r589641, r589642, r589643, r589644, r589645, r589646, r589647, r589648⟩ := show rk_9 gm_0 el_0 q589121 (F589184 q589121) from RS_o hT589190 htq589121
            have bp589632 : gB p589632 0 1000000 := ⟨by omega, by omega⟩
            have bp589633 : gB p589633 0 1000000 := ⟨by omega, by omega⟩
            have hf589650 : gm_0 1 q589630 = fo := (show gm_0 1 q589630 = gm_0 1 q589121 from ht589635).trans hfo1
            have hf589651 : gm_0 1 q589631 = fo := (show gm_0 1 q589631 = gm_0 1 q589121 from ht589637).trans hfo1
            have r589652 : gm_0 6 (gm_0 1 q589121) = gm_0 6 fo := by rw [hfo1]
            have r589653 : gm_0 16 (gm_0 1 q589121) = gm_0 16 fo := by rw [hfo1]
            have r589654 : p589633.toInt = gm_0 6 fo ∧ p589633.toInt ≤ 40 := by omega
            clear r589644
            have fq589655 : fI (F589184 q589121) 3 = p589633 := by rw [he589629]; rfl
            refine Gw_callV (As := []) (gV_ok D I) (cp_12780_Code_size l hl0 D I P589115 F589184 q589121 q589630 q589631 p589632 p589633 hm589628 he589629) dr_cX17_look_47 ⟨wr_10_160, wr_1_15, wr_9_131, by decide, rfl, (Nat.le_of_ble_eq_true rfl), (Nat.le_of_ble_eq_true rfl)⟩ wr_9_129 wr_9_130 hm589628 he589629 rfl (rm_zc pk589128) (rm_zs pk589128) (Nat.le_of_ble_eq_true rfl) (fun r589659 w589660 dc589656 ds589657 hp589658 => ?_) (fun _ _ _ _ _ z => z.elim)
            obtain ⟨rfl, rfl, hdc, hds⟩ := hp589658
            change G _ _ _ _ _ _ _ (.int p589633 :: _) _ _ _
            refine G_widen (cs' := ((rPh gm_0 el_0 f - rPh γ0 el0 f) / 18)) (sl' := (rPh gm_0 el_0 f - rPh γ0 el0 f)) (rm_d0 hdc) (rm_d0 hds) ?_
            refine G_icmp_lt 59 dr_cX17_look_50 (by decide +kernel) (fun hc589661 => ?_) (fun hc589661 => ?_)
            · have r589662 : p589118.toInt < p589633.toInt := gC_lt hc589661
              have bp589118'' : gB p589118 0 999999 := ⟨by omega, by omega⟩
              have bp589633' : gB p589633 1 1000000 := ⟨by omega, by omega⟩
              refine G_aload_n 0 dr_cX17_look_59 rfl ?_
              refine G_aload_n 0 dr_cX17_look_60 rfl ?_
              refine Gp_get 6 hm589134 he589187 dr_cX17_look_61 (gk_X17 D I) (Nat.le_of_ble_eq_true rfl) wr_7_80 rfl ?_
              rw [show gm_0 9 6 = q589121 from (congrFun (rSk_9 hs589191) 6).trans hvq589121]
              refine G_iconst 0 dr_cX17_look_64 (by decide +kernel) ?_
              refine Gw_callV (As := [.ref q589121, .int 0]) (gV_ok D I) (ct_225912_SpillForgeModel_findLive l hl0 D I gm_0 el_0 P589115 F589184 q589117 q589121 0 hT589190 htq589117 htq589121 (gB_w (gBl (show Int32.toInt 0 = 0 by decide)) (by decide) (by decide)) (by omega)) dr_cX17_look_65 ⟨wr_10_156, wr_1_14, wr_10_159, by decide, rfl, (Nat.le_of_ble_eq_true rfl), (Nat.le_of_ble_eq_true rfl)⟩ wr_10_158 wr_p_94 hm589134 he589187 rfl (rm_zc pk589128) (rm_zs pk589128) (Nat.le_of_ble_eq_true rfl) (fun r589666 w589667 dc589663 ds589664 hp589665 => ?_) (fun _ _ _ _ _ z => z.elim)
              obtain ⟨F589670, rfl, rfl, hT589671, hs589672, hdc, hds, x589668, ht589669⟩ := hp589665
              have he589673 : F589670 q589121 = .inr (18, [.ref q589630, .ref q589631, .int p589632, .int p589633]) := (hs589672 q589121 (rT0 htq589121 (by decide)) (rT1 htq589121 (by decide)) (rT2 htq589121 (by decide))).trans he589629
              have hs589674 := rSk_str hs589191 hT589671 hs589672 (by decide) (by decide) (by decide)
              have kp589675 : F589670 q589117 = F589184 q589117 := x589668
              have mk589676 : mKp (F589116 q589117) (F589670 q589117) := mKp_tr mk589188 (mKp_eq x589668)
              have he589677 : F589670 q589117 = .inr (22, [.ref (gm_0 9 0), .ref (gm_0 9 1), .ref (gm_0 9 2), .ref (gm_0 9 3), .ref (gm_0 9 4), .ref (gm_0 9 5), .ref (gm_0 9 6), .ref (gm_0 9 7), .ref (gm_0 9 8), .int p589138, .int p589139, .int p589140, .int p589141, .int p589142, .int p589143, .ref (gm_0 9 15), .ref (gm_0 9 16), .ref (gm_0 9 17), .ref (gm_0 9 18), .ref (gm_0 9 19), .ref (gm_0 9 20), .ref (gm_0 9 21), .ref (gm_0 9 22), .int p589144, .int p589145, .int p589146, .int p589147, .int p589148, .ref q589136, .ref (gm_0 9 29), .int 0, .ref (gm_0 9 31), .int p589150, .int p589151, .int p589152, .ref q589137]) := (x589668).trans he589187
              change G _ _ _ _ _ _ _ _ _ _ _
              refine G_widen (cs' := ((rPh gm_0 el_0 f - rPh γ0 el0 f) / 18)) (sl' := (rPh gm_0 el_0 f - rPh γ0 el0 f)) (rm_d0 hdc) (rm_d0 hds) ?_
              refine G_aload_n 0 dr_cX17_look_68 rfl ?_
              refine G_aload_n 0 dr_cX17_look_69 rfl ?_
              have fq589678 : fR (F589670 q589117) 6 = (gm_0 9 6) := by rw [he589677]; rfl
              refine Gp_get 6 hm589134 he589677 dr_cX17_look_70 (gk_X17 D I) (Nat.le_of_ble_eq_true rfl) wr_7_80 rfl ?_
              rw [show gm_0 9 6 = q589121 from (congrFun (rSk_9 hs589674) 6).trans hvq589121]
              refine Gw_callV (As := [.ref q589121]) (gV_ok D I) (ct_409961_SpillForgeModel_findDepth l hl0 D I gm_0 el_0 P589115 F589670 q589117 q589121 hT589671 htq589117 htq589121 (by omega)) dr_cX17_look_73 ⟨wr_11_37, wr_1_14, wr_11_40, by decide, rfl, (Nat.le_of_ble_eq_true rfl), (Nat.le_of_ble_eq_true rfl)⟩ wr_11_39 wr_p_105 hm589134 he589677 rfl (rm_zc pk589128) (rm_zs pk589128) (Nat.le_of_ble_eq_true rfl) (fun r589682 w589683 dc589679 ds589680 hp589681 => ?_) (fun _ _ _ _ _ z => z.elim)
              obtain ⟨F589687, rfl, rfl, hT589688, hs589689, hdc, hds, x589684, x589685, ht589686⟩ := hp589681
              have he589690 : F589687 q589121 = .inr (18, [.ref q589630, .ref q589631, .int p589632, .int p589633]) := (hs589689 q589121 (rT0 htq589121 (by decide)) (rT1 htq589121 (by decide)) (rT2 htq589121 (by decide))).trans he589673
              have hs589691 := rSk_str hs589674 hT589688 hs589689 (by decide) (by decide) (by decide)
              have kp589692 : F589687 q589117 = F589184 q589117 := (x589684).trans kp589675
              have mk589693 : mKp (F589116 q589117) (F589687 q589117) := mKp_tr mk589676 (mKp_eq x589684)
              have he589694 : F589687 q589117 = .inr (22, [.ref (gm_0 9 0), .ref (gm_0 9 1), .ref (gm_0 9 2), .ref (gm_0 9 3), .ref (gm_0 9 4), .ref (gm_0 9 5), .ref (gm_0 9 6), .ref (gm_0 9 7), .ref (gm_0 9 8), .int p589138, .int p589139, .int p589140, .int p589141, .int p589142, .int p589143, .ref (gm_0 9 15), .ref (gm_0 9 16), .ref (gm_0 9 17), .ref (gm_0 9 18), .ref (gm_0 9 19), .ref (gm_0 9 20), .ref (gm_0 9 21), .ref (gm_0 9 22), .int p589144, .int p589145, .int p589146, .int p589147, .int p589148, .ref q589136, .ref (gm_0 9 29), .int 0, .ref (gm_0 9 31), .int p589150, .int p589151, .int p589152, .ref q589137]) := (x589684).trans he589677
              change G _ _ _ _ _ _ _ _ _ _ _
              refine G_widen (cs' := ((rPh gm_0 el_0 f - rPh γ0 el0 f) / 18)) (sl' := (rPh gm_0 el_0 f - rPh γ0 el0 f)) (rm_d0 hdc) (rm_d0 hds) ?_
              refine G_iload_n 2 dr_cX17_look_76 rfl ?_
              refine G_iconst 2 dr_cX17_look_77 (by decide +kernel) ?_
              refine G_icmp_ne 93 dr_cX17_look_78 (by decide +kernel) (fun hc589695 => ?_) (fun hc589695 => ?_)
              · have r589696 : p589119.toInt ≠ 2 := gj_neq hc589695 (show Int32.toInt 2 = 2 by decide)
                have bp589119'''' : gB p589119 3 3 := ⟨by omega, by omega⟩
                refine G_aload_n 0 dr_cX17_look_93 rfl ?_
                have fq589697 : fR (F589687 q589117) 4 = (gm_0 9 4) := by rw [he589694]; rfl
                refine Gp_get 4 hm589134 he589694 dr_cX17_look_94 (gk_X17 D I) (Nat.le_of_ble_eq_true rfl) wr_7_78 rfl ?_
                refine G_iload_n 1 dr_cX17_look_97 rfl ?_
                have hm589698 : (gm_0 9 4) ∈ P589115 := RS_m hT589688 ht589159 (by decide)
                obtain ⟨f589700, he589699⟩ := show rk_16 I (F589687 (gm_0 9 4)) from RS_o hT589688 ht589159
                refine Gp_iald 0 hm589698 he589699 dr_cX17_look_98 rfl (gB_inr (by omega) (by omega)) (G_nam fun z589701 hz589701 => ?_)
                have bz589701 : gB z589701 (-2147483648) 2147483647 := gB_any z589701
                have ac589702 : (fI (F589687 q589117) 10).toInt = (fI (F589184 q589117) 10).toInt := by rw [kp589692]
                exact G_iretA dr_cX17_look_99 rfl (show ((rPh gm_0 el_0 f - rPh γ0 el0 f) / 18) ≤ (((387 * B + 6000) - rPh γ0 el0 f) / 18) by omega) (show (rPh gm_0 el_0 f - rPh γ0 el0 f) ≤ ((387 * B + 6000) - rPh γ0 el0 f) by omega) ⟨P589115, F589687, gm_0, el_0, z589701, rfl, rfl, hs589691, ⟨by omega, by omega⟩, hB, (by omega), mk589693, (fun R c1 c2 c3 c4 c5 c6 c7 c8 c9 c10 c11 c12 => c8 gm_0 el_0 F589184 p589138 p589633 F589670 F589687 f589700 z589701 hγ0 hel0 n589186 fq589189 fq589194 r589196 r589275 r589277 r589610 r589626 fq589627 fq589655 r589662 hT589671 hs589672 x589668 ht589669 fq589678 hT589688 hs589689 x589684 x589685 ht589686 r589696 fq589697 he589699 hz589701)⟩
              · have r589703 : p589119.toInt = 2 := gj_eq hc589695 (show Int32.toInt 2 = 2 by decide)
                have bp589119'''' : gB p589119 2 2 := ⟨by omega, by omega⟩
                refine G_aload_n 0 dr_cX17_look_81 rfl ?_
                have fq589704 : fR (F589687 q589117) 0 = (gm_0 9 0) := by rw [he589694]; rfl
                refine Gp_get 0 hm589134 he589694 dr_cX17_look_82 (gk_X17 D I) (Nat.le_of_ble_eq_true rfl) wr_7_74 rfl ?_
                refine G_iload_n 1 dr_cX17_look_85 rfl ?_
                have hm589705 : (gm_0 9 0) ∈ P589115 := RS_m hT589688 ht589155 (by decide)
                obtain ⟨f589707, he589706, hg589708⟩ := show rk_12 I gm_0 (F589687 (gm_0 9 0)) from RS_o hT589688 ht589155
                obtain ⟨q589709, hx589711⟩ : ∃ x, x = gm_0 10 p589118.toInt.toNat := ⟨_, rfl⟩
                have ht589710 : rKd gm_0 q589709 11 := by rw [hx589711]; exact (hg589708 _ (show p589118.toInt.toNat < 40 by omega)).2.1
                refine Gp_aald 5 hm589705 he589706 dr_cX17_look_86 rfl rfl (gB_inr (by omega) (by omega)) ?_
                rw [show f589707 p589118.toNatClampNeg = some q589709 from (hg589708 _ (show p589118.toInt.toNat < 40 by omega)).1.trans (by rw [hx589711])]
                change G _ _ _ _ _ _ _ (.ref q589709 :: _) _ _ _
                have hm589712 : q589709 ∈ P589115 := RS_m hT589688 ht589710 (by decide)
                obtain ⟨f589714, he589713, wf589714⟩ := show rk_11 I (F589687 q589709) from RS_o hT589688 ht589710
                refine Gw_callS (As := [.ref q589709]) (gV_ok D I) (cp_1899_SpillForgeModel_count l hl0 D I P589115 F589687 q589709 f589714 hm589712 he589713) dr_cX17_look_87 ⟨wr_11_16, wr_1_14, wr_11_18, by decide, rfl, (Nat.le_of_ble_eq_true rfl), (Nat.le_of_ble_eq_true rfl)⟩ wr_11_17 (rm_zc pk589128) (rm_zs pk589128) (Nat.le_of_ble_eq_true rfl) (fun r589718 w589719 dc589715 ds589716 hp589717 => ?_) (fun _ _ _ _ _ z => z.elim)
                obtain ⟨o589720, rfl, rfl, hdc, hds, ht589721⟩ := hp589717
                have bo589720 := gB_any o589720
                change G _ _ _ _ _ _ _ (.int o589720 :: _) _ _ _
                refine G_widen (cs' := ((rPh gm_0 el_0 f - rPh γ0 el0 f) / 18)) (sl' := (rPh gm_0 el_0 f - rPh γ0 el0 f)) (rm_d0 hdc) (rm_d0 hds) ?_
                refine G_goto 99 dr_cX17_look_90 (by decide +kernel) ?_
                have ac589722 : (fI (F589687 q589117) 10).toInt = (fI (F589184 q589117) 10).toInt := by rw [kp589692]
                exact G_iretA dr_cX17_look_99 rfl (show ((rPh gm_0 el_0 f - rPh γ0 el0 f) / 18) ≤ (((387 * B + 6000) - rPh γ0 el0 f) / 18) by omega) (show (rPh gm_0 el_0 f - rPh γ0 el0 f) ≤ ((387 * B + 6000) - rPh γ0 el0 f) by omega) ⟨P589115, F589687, gm_0, el_0, o589720, rfl, rfl, hs589691, ⟨by omega, by omega⟩, hB, (by omega), mk589693, (fun R c1 c2 c3 c4 c5 c6 c7 c8 c9 c10 c11 c12 => c9 gm_0 el_0 F589184 p589138 p589633 F589670 F589687 q589709 f589714 o589720 hγ0 hel0 n589186 fq589189 fq589194 r589196 r589275 r589277 r589610 r589626 fq589627 fq589655 r589662 hT589671 hs589672 x589668 ht589669 fq589678 hT589688 hs589689 x589684 x589685 ht589686 r589703 fq589704 hx589711 he589713 ht589721)⟩
            · have r589723 : p589633.toInt ≤ p589118.toInt := gC_nlt hc589661
              refine G_aload_n 0 dr_cX17_look_53 rfl ?_
              refine G_iconst 3 dr_cX17_look_54 (by decide +kernel) ?_
              refine Gw_callV (As := [.int 3]) (gV_ok D I) (ct_589203_SpillForgeModel_no l hl0 D I gm_0 el_0 P589115 F589184 q589117 3 hT589190 htq589117) dr_cX17_look_55 ⟨wr_7_191, wr_1_14, wr_7_194, by decide, rfl, (Nat.le_of_ble_eq_true rfl), (Nat.le_of_ble_eq_true rfl)⟩ wr_7_193 wr_p_73 hm589134 he589187 rfl (rm_zc pk589128) (rm_zs pk589128) (Nat.le_of_ble_eq_true rfl) (fun r589727 w589728 dc589724 ds589725 hp589726 => ?_) (fun _ _ _ _ _ z => z.elim)
              obtain ⟨F589732, rfl, rfl, hT589733, hs589734, hdc, hds, x589729, x589730, ht589731⟩ := hp589726
              have he589735 : F589732 q589121 = .inr (18, [.ref q589630, .ref q589631, .int p589632, .int p589633]) := (hs589734 q589121 (rT0 htq589121 (by decide)) (rT1 htq589121 (by decide)) (rT2 htq589121 (by decide))).trans he589629
              have hs589736 := rSk_str hs589191 hT589733 hs589734 (by decide) (by decide) (by decide)
              have mk589737 : mKp (F589116 q589117) (F589732 q589117) := mKp_tr mk589188 x589730
              change G _ _ _ _ _ _ _ (.int 0 :: _) _ _ _
              refine G_widen (cs' := ((rPh gm_0 el_0 f - rPh γ0 el0 f) / 18)) (sl' := (rPh gm_0 el_0 f - rPh γ0 el0 f)) (rm_d0 hdc) (rm_d0 hds) ?_
              exact G_iretA dr_cX17_look_58 rfl (show ((rPh gm_0 el_0 f - rPh γ0 el0 f) / 18) ≤ (((387 * B + 6000) - rPh γ0 el0 f) / 18) by omega) (show (rPh gm_0 el_0 f - rPh γ0 el0 f) ≤ ((387 * B + 6000) - rPh γ0 el0 f) by omega) ⟨P589115, F589732, gm_0, el_0, 0, rfl, rfl, hs589736, ⟨by omega, by omega⟩, hB, (by have qa0 : Int32.toInt 0 = 0 := (by decide); omega), mk589737, (fun R c1 c2 c3 c4 c5 c6 c7 c8 c9 c10 c11 c12 => c10 gm_0 el_0 F589184 p589138 p589633 F589732 hγ0 hel0 n589186 fq589189 fq589194 r589196 r589275 r589277 r589610 r589626 fq589627 fq589655 r589723 hT589733 hs589734 x589729 x589730 ht589731)⟩
      · have r589738 : 3 < p589119.toInt := gj_nle hc589276 (show Int32.toInt 3 = 3 by decide)
        have bp589119'' : gB p589119 4 2147483647 := ⟨by omega, by omega⟩
        refine G_aload_n 0 dr_cX17_look_27 rfl ?_
        refine G_iconst 2 dr_cX17_look_28 (by decide +kernel) ?_
        refine Gw_callV (As := [.int 2]) (gV_ok D I) (ct_589203_SpillForgeModel_no l hl0 D I gm_0 el_0 P589115 F589184 q589117 2 hT589190 htq589117) dr_cX17_look_29 ⟨wr_7_191, wr_1_14, wr_7_194, by decide, rfl, (Nat.le_of_ble_eq_true rfl), (Nat.le_of_ble_eq_true rfl)⟩ wr_7_193 wr_p_73 hm589134 he589187 rfl (rm_zc pk589128) (rm_zs pk589128) (Nat.le_of_ble_eq_true rfl) (fun r589742 w589743 dc589739 ds589740 hp589741 => ?_) (fun _ _ _ _ _ z => z.elim)
        obtain ⟨F589747, rfl, rfl, hT589748, hs589749, hdc, hds, x589744, x589745, ht589746⟩ := hp589741
        have hs589750 := rSk_str hs589191 hT589748 hs589749 (by decide) (by decide) (by decide)
        have mk589751 : mKp (F589116 q589117) (F589747 q589117) := mKp_tr mk589188 x589745
        change G _ _ _ _ _ _ _ (.int 0 :: _) _ _ _
        refine G_widen (cs' := ((rPh gm_0 el_0 f - rPh γ0 el0 f) / 18)) (sl' := (rPh gm_0 el_0 f - rPh γ0 el0 f)) (rm_d0 hdc) (rm_d0 hds) ?_
        exact G_iretA dr_cX17_look_32 rfl (show ((rPh gm_0 el_0 f - rPh γ0 el0 f) / 18) ≤ (((387 * B + 6000) - rPh γ0 el0 f) / 18) by omega) (show (rPh gm_0 el_0 f - rPh γ0 el0 f) ≤ ((387 * B + 6000) - rPh γ0 el0 f) by omega) ⟨P589115, F589747, gm_0, el_0, 0, rfl, rfl, hs589750, ⟨by omega, by omega⟩, hB, (by have qa0 : Int32.toInt 0 = 0 := (by decide); omega), mk589751, (fun R c1 c2 c3 c4 c5 c6 c7 c8 c9 c10 c11 c12 => c11 gm_0 el_0 F589184 p589138 F589747 hγ0 hel0 n589186 fq589189 fq589194 r589196 r589275 r589738 hT589748 hs589749 x589744 x589745 ht589746)⟩
  · have r589752 : p589138.toInt = 0 := gj_eq hc589195 (show Int32.toInt 0 = 0 by decide)
    have bp589138' : gB p589138 0 0 := gB_t0 r589752
    refine G_aload_n 0 dr_cX17_look_12 rfl ?_
    refine G_iconst 1 dr_cX17_look_13 (by decide +kernel) ?_
    refine Gw_callV (As := [.int 1]) (gV_ok D I) (ct_589203_SpillForgeModel_no l hl0 D I gm_0 el_0 P589115 F589184 q589117 1 hT589190 htq589117) dr_cX17_look_14 ⟨wr_7_191, wr_1_14, wr_7_194, by decide, rfl, (Nat.le_of_ble_eq_true rfl), (Nat.le_of_ble_eq_true rfl)⟩ wr_7_193 wr_p_73 hm589134 he589187 rfl (rm_zc pk589128) (rm_zs pk589128) (Nat.le_of_ble_eq_true rfl) (fun r589756 w589757 dc589753 ds589754 hp589755 => ?_) (fun _ _ _ _ _ z => z.elim)
    obtain ⟨F589761, rfl, rfl, hT589762, hs589763, hdc, hds, x589758, x589759, ht589760⟩ := hp589755
    have hs589764 := rSk_str hs589191 hT589762 hs589763 (by decide) (by decide) (by decide)
    have mk589765 : mKp (F589116 q589117) (F589761 q589117) := mKp_tr mk589188 x589759
    change G _ _ _ _ _ _ _ (.int 0 :: _) _ _ _
    refine G_widen (cs' := ((rPh gm_0 el_0 f - rPh γ0 el0 f) / 18)) (sl' := (rPh gm_0 el_0 f - rPh γ0 el0 f)) (rm_d0 hdc) (rm_d0 hds) ?_
    exact G_iretA dr_cX17_look_17 rfl (show ((rPh gm_0 el_0 f - rPh γ0 el0 f) / 18) ≤ (((387 * B + 6000) - rPh γ0 el0 f) / 18) by omega) (show (rPh gm_0 el_0 f - rPh γ0 el0 f) ≤ ((387 * B + 6000) - rPh γ0 el0 f) by omega) ⟨P589115, F589761, gm_0, el_0, 0, rfl, rfl, hs589764, ⟨by omega, by omega⟩, hB, (by have qa0 : Int32.toInt 0 = 0 := (by decide); omega), mk589765, (fun R c1 c2 c3 c4 c5 c6 c7 c8 c9 c10 c11 c12 => c12 gm_0 el_0 F589184 p589138 F589761 hγ0 hel0 n589186 fq589189 fq589194 r589752 hT589762 hs589763 x589758 x589759 ht589760)⟩
