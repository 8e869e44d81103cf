theorem dr_cX17_word__0 : decode cX17_word_ 0 = .ok (.aload_n 0, 1) := by decide +kernel
theorem dr_cX17_word__1 : decode cX17_word_ 1 = .ok (.iconst 0, 1) := by decide +kernel
theorem dr_cX17_word__2 : decode cX17_word_ 2 = .ok (.putfield 380, 3) := by decide +kernel
theorem dr_cX17_word__5 : decode cX17_word_ 5 = .ok (.iload_n 1, 1) := by decide +kernel
theorem dr_cX17_word__6 : decode cX17_word_ 6 = .ok (.ifCond .lt 11, 3) := by decide +kernel
theorem dr_cX17_word__17 : decode cX17_word_ 17 = .ok (.aload_n 0, 1) := by decide +kernel
theorem dr_cX17_word__18 : decode cX17_word_ 18 = .ok (.iconst 1, 1) := by decide +kernel
theorem dr_cX17_word__19 : decode cX17_word_ 19 = .ok (.invokevirtual 385, 3) := by decide +kernel
theorem dr_cX17_word__22 : decode cX17_word_ 22 = .ok (.i2l, 1) := by decide +kernel
theorem dr_cX17_word__23 : decode cX17_word_ 23 = .ok (.lreturn, 1) := by decide +kernel
theorem dr_cX17_word__9 : decode cX17_word_ 9 = .ok (.iload_n 1, 1) := by decide +kernel
theorem dr_cX17_word__10 : decode cX17_word_ 10 = .ok (.aload_n 0, 1) := by decide +kernel
theorem dr_cX17_word__11 : decode cX17_word_ 11 = .ok (.getfield 426, 3) := by decide +kernel
theorem dr_cX17_word__14 : decode cX17_word_ 14 = .ok (.if_icmp .lt 10, 3) := by decide +kernel
theorem dr_cX17_word__24 : decode cX17_word_ 24 = .ok (.lconst 0, 1) := by decide +kernel
theorem dr_cX17_word__25 : decode cX17_word_ 25 = .ok (.lstore_n 2, 1) := by decide +kernel
theorem dr_cX17_word__26 : decode cX17_word_ 26 = .ok (.iconst 0, 1) := by decide +kernel
theorem dr_cX17_word__27 : decode cX17_word_ 27 = .ok (.istore 4, 2) := by decide +kernel
theorem dr_cX17_word__29 : decode cX17_word_ 29 = .ok (.iload 4, 2) := by decide +kernel
theorem dr_cX17_word__31 : decode cX17_word_ 31 = .ok (.bipush 8, 2) := by decide +kernel
theorem dr_cX17_word__33 : decode cX17_word_ 33 = .ok (.if_icmp .ge 44, 3) := by decide +kernel
theorem dr_cX17_word__77 : decode cX17_word_ 77 = .ok (.lload_n 2, 1) := by decide +kernel
theorem dr_cX17_word__78 : decode cX17_word_ 78 = .ok (.lreturn, 1) := by decide +kernel
theorem dr_cX17_word__36 : decode cX17_word_ 36 = .ok (.lload_n 2, 1) := by decide +kernel
theorem dr_cX17_word__37 : decode cX17_word_ 37 = .ok (.bipush 8, 2) := by decide +kernel
theorem dr_cX17_word__39 : decode cX17_word_ 39 = .ok (.lshl, 1) := by decide +kernel
theorem dr_cX17_word__40 : decode cX17_word_ 40 = .ok (.iload_n 1, 1) := by decide +kernel
theorem dr_cX17_word__41 : decode cX17_word_ 41 = .ok (.iload 4, 2) := by decide +kernel
theorem dr_cX17_word__43 : decode cX17_word_ 43 = .ok (.iadd, 1) := by decide +kernel
theorem dr_cX17_word__44 : decode cX17_word_ 44 = .ok (.aload_n 0, 1) := by decide +kernel
theorem dr_cX17_word__45 : decode cX17_word_ 45 = .ok (.getfield 426, 3) := by decide +kernel
theorem dr_cX17_word__48 : decode cX17_word_ 48 = .ok (.if_icmp .ge 19, 3) := by decide +kernel
theorem dr_cX17_word__67 : decode cX17_word_ 67 = .ok (.iconst 0, 1) := by decide +kernel
theorem dr_cX17_word__68 : decode cX17_word_ 68 = .ok (.i2l, 1) := by decide +kernel
theorem dr_cX17_word__69 : decode cX17_word_ 69 = .ok (.lor, 1) := by decide +kernel
theorem dr_cX17_word__70 : decode cX17_word_ 70 = .ok (.lstore_n 2, 1) := by decide +kernel
theorem dr_cX17_word__71 : decode cX17_word_ 71 = .ok (.iinc 4 1, 3) := by decide +kernel
theorem dr_cX17_word__74 : decode cX17_word_ 74 = .ok (.goto (-45), 3) := by decide +kernel
theorem dr_cX17_word__51 : decode cX17_word_ 51 = .ok (.aload_n 0, 1) := by decide +kernel
theorem dr_cX17_word__52 : decode cX17_word_ 52 = .ok (.getfield 378, 3) := by decide +kernel
theorem wr_7_109 : (Jvm.Cond.fieldLink "SpillForgeModel" (378 : Nat) "SpillForgeModel" "result" "[B") ∈ gw := gw_7 109 rfl rfl
theorem dr_cX17_word__55 : decode cX17_word_ 55 = .ok (.iload_n 1, 1) := by decide +kernel
theorem dr_cX17_word__56 : decode cX17_word_ 56 = .ok (.iload 4, 2) := by decide +kernel
theorem dr_cX17_word__58 : decode cX17_word_ 58 = .ok (.iadd, 1) := by decide +kernel
theorem dr_cX17_word__59 : decode cX17_word_ 59 = .ok (.baload, 1) := by decide +kernel
theorem dr_cX17_word__60 : decode cX17_word_ 60 = .ok (.sipush 255, 3) := by decide +kernel
theorem dr_cX17_word__63 : decode cX17_word_ 63 = .ok (.iand, 1) := by decide +kernel
theorem dr_cX17_word__64 : decode cX17_word_ 64 = .ok (.goto 4, 3) := by decide +kernel
theorem dr_cX17_look_0 : decode cX17_look 0 = .ok (.aload_n 0, 1) := by decide +kernel
theorem dr_cX17_look_1 : decode cX17_look 1 = .ok (.iconst 0, 1) := by decide +kernel
theorem dr_cX17_look_2 : decode cX17_look 2 = .ok (.putfield 380, 3) := by decide +kernel
theorem dr_cX17_look_5 : decode cX17_look 5 = .ok (.aload_n 0, 1) := by decide +kernel
theorem dr_cX17_look_6 : decode cX17_look 6 = .ok (.getfield 414, 3) := by decide +kernel
theorem dr_cX17_look_9 : decode cX17_look 9 = .ok (.ifCond .ne 9, 3) := by decide +kernel
theorem dr_cX17_look_18 : decode cX17_look 18 = .ok (.iload_n 2, 1) := by decide +kernel
theorem dr_cX17_look_19 : decode cX17_look 19 = .ok (.ifCond .lt 8, 3) := by decide +kernel
theorem dr_cX17_look_27 : decode cX17_look 27 = .ok (.aload_n 0, 1) := by decide +kernel
theorem dr_cX17_look_28 : decode cX17_look 28 = .ok (.iconst 2, 1) := by decide +kernel
theorem dr_cX17_look_29 : decode cX17_look 29 = .ok (.invokevirtual 385, 3) := by decide +kernel
theorem dr_cX17_look_32 : decode cX17_look 32 = .ok (.ireturn, 1) := by decide +kernel
theorem dr_cX17_look_22 : decode cX17_look 22 = .ok (.iload_n 2, 1) := by decide +kernel
theorem dr_cX17_look_23 : decode cX17_look 23 = .ok (.iconst 3, 1) := by decide +kernel
theorem dr_cX17_look_24 : decode cX17_look 24 = .ok (.if_icmp .le 9, 3) := by decide +kernel
theorem dr_cX17_look_33 : decode cX17_look 33 = .ok (.iload_n 2, 1) := by decide +kernel
theorem dr_cX17_look_34 : decode cX17_look 34 = .ok (.iconst 1, 1) := by decide +kernel
theorem dr_cX17_look_35 : decode cX17_look 35 = .ok (.if_icmp .le 65, 3) := by decide +kernel
theorem dr_cX17_look_100 : decode cX17_look 100 = .ok (.aload_n 0, 1) := by decide +kernel
theorem dr_cX17_look_101 : decode cX17_look 101 = .ok (.aload_n 0, 1) := by decide +kernel
theorem dr_cX17_look_102 : decode cX17_look 102 = .ok (.getfield 361, 3) := by decide +kernel
theorem dr_cX17_look_105 : decode cX17_look 105 = .ok (.iconst 0, 1) := by decide +kernel
theorem dr_cX17_look_106 : decode cX17_look 106 = .ok (.invokevirtual 243, 3) := by decide +kernel
theorem dr_cX17_look_109 : decode cX17_look 109 = .ok (.iload_n 1, 1) := by decide +kernel
theorem dr_cX17_look_110 : decode cX17_look 110 = .ok (.ifCond .lt 19, 3) := by decide +kernel
theorem dr_cX17_look_129 : decode cX17_look 129 = .ok (.aload_n 0, 1) := by decide +kernel
theorem dr_cX17_look_130 : decode cX17_look 130 = .ok (.iconst 3, 1) := by decide +kernel
theorem dr_cX17_look_131 : decode cX17_look 131 = .ok (.invokevirtual 385, 3) := by decide +kernel
theorem dr_cX17_look_134 : decode cX17_look 134 = .ok (.ireturn, 1) := by decide +kernel
theorem dr_cX17_look_113 : decode cX17_look 113 = .ok (.iload_n 1, 1) := by decide +kernel
theorem dr_cX17_look_114 : decode cX17_look 114 = .ok (.sipush 2000, 3) := by decide +kernel
theorem dr_cX17_look_117 : decode cX17_look 117 = .ok (.if_icmp .ge 12, 3) := by decide +kernel
theorem dr_cX17_look_120 : decode cX17_look 120 = .ok (.aload_n 0, 1) := by decide +kernel
theorem dr_cX17_look_121 : decode cX17_look 121 = .ok (.getfield 131, 3) := by decide +kernel
theorem dr_cX17_look_124 : decode cX17_look 124 = .ok (.iload_n 1, 1) := by decide +kernel
theorem dr_cX17_look_125 : decode cX17_look 125 = .ok (.baload, 1) := by decide +kernel
theorem dr_cX17_look_126 : decode cX17_look 126 = .ok (.ifCond .ne 9, 3) := by decide +kernel
theorem dr_cX17_look_135 : decode cX17_look 135 = .ok (.aload_n 0, 1) := by decide +kernel
theorem dr_cX17_look_136 : decode cX17_look 136 = .ok (.getfield 368, 3) := by decide +kernel
theorem wr_7_82 : (Jvm.Cond.fieldLink "SpillForgeModel" (368 : Nat) "SpillForgeModel" "spare" "LSpillForgeModel$Code;") ∈ gw := gw_7 82 rfl rfl
theorem dr_cX17_look_139 : decode cX17_look 139 = .ok (.aload_n 0, 1) := by decide +kernel
theorem dr_cX17_look_140 : decode cX17_look 140 = .ok (.getfield 361, 3) := by decide +kernel
theorem dr_cX17_look_143 : decode cX17_look 143 = .ok (.invokevirtual 419, 3) := by decide +kernel
theorem wr_10_132 : (Jvm.Cond.methodLink "SpillForgeModel" (419 : Nat) ({ cls := "SpillForgeModel$Code", name := "copy", desc := "(LSpillForgeModel$Code;)V" } : Jvm.MethodName)) ∈ gw := gw_10 132 rfl rfl
theorem wr_10_135 : (Jvm.Cond.code ({ cls := "SpillForgeModel$Code", name := "copy", desc := "(LSpillForgeModel$Code;)V" } : Jvm.MethodName) prog_16_method_9_code (7 : Nat) (Option.none : Option Jvm.ClassFile.FieldType)) ∈ gw := gw_10 135 rfl rfl
theorem wr_10_133 : (Jvm.Cond.instanceMethod ({ cls := "SpillForgeModel$Code", name := "copy", desc := "(LSpillForgeModel$Code;)V" } : Jvm.MethodName)) ∈ gw := gw_10 133 rfl rfl
theorem wr_10_134 : (Jvm.Cond.selects "SpillForgeModel$Code" ({ cls := "SpillForgeModel$Code", name := "copy", desc := "(LSpillForgeModel$Code;)V" } : Jvm.MethodName) ({ cls := "SpillForgeModel$Code", name := "copy", desc := "(LSpillForgeModel$Code;)V" } : Jvm.MethodName)) ∈ gw := gw_10 134 rfl rfl
theorem dr_cX17_look_146 : decode cX17_look 146 = .ok (.aload_n 0, 1) := by decide +kernel
theorem dr_cX17_look_147 : decode cX17_look 147 = .ok (.aload_n 0, 1) := by decide +kernel
theorem dr_cX17_look_148 : decode cX17_look 148 = .ok (.getfield 368, 3) := by decide +kernel
theorem dr_cX17_look_151 : decode cX17_look 151 = .ok (.invokevirtual 240, 3) := by decide +kernel
theorem wr_10_152 : (Jvm.Cond.methodLink "SpillForgeModel" (240 : Nat) ({ cls := "SpillForgeModel", name := "zeros", desc := "(LSpillForgeModel$Code;)V" } : Jvm.MethodName)) ∈ gw := gw_10 152 rfl rfl
theorem wr_10_155 : (Jvm.Cond.code ({ cls := "SpillForgeModel", name := "zeros", desc := "(LSpillForgeModel$Code;)V" } : Jvm.MethodName) prog_14_method_16_code (5 : Nat) (Option.none : Option Jvm.ClassFile.FieldType)) ∈ gw := gw_10 155 rfl rfl
theorem wr_10_154 : (Jvm.Cond.instanceMethod ({ cls := "SpillForgeModel", name := "zeros", desc := "(LSpillForgeModel$Code;)V" } : Jvm.MethodName)) ∈ gw := gw_10 154 rfl rfl
theorem wr_p_93 : Cond.selects "SpillForgeModel" ⟨"SpillForgeModel", "zeros", "(LSpillForgeModel$Code;)V"⟩ ⟨"SpillForgeModel", "zeros", "(LSpillForgeModel$Code;)V"⟩ ∈ gw := gw_p _ 93 rfl rfl rfl
theorem dr_cX17_look_154 : decode cX17_look 154 = .ok (.aload_n 0, 1) := by decide +kernel
theorem dr_cX17_look_155 : decode cX17_look 155 = .ok (.aload_n 0, 1) := by decide +kernel
theorem dr_cX17_look_156 : decode cX17_look 156 = .ok (.getfield 368, 3) := by decide +kernel
theorem dr_cX17_look_159 : decode cX17_look 159 = .ok (.iconst 0, 1) := by decide +kernel
theorem dr_cX17_look_160 : decode cX17_look 160 = .ok (.invokevirtual 243, 3) := by decide +kernel
theorem dr_cX17_look_163 : decode cX17_look 163 = .ok (.aload_n 0, 1) := by decide +kernel
theorem dr_cX17_look_164 : decode cX17_look 164 = .ok (.aload_n 0, 1) := by decide +kernel
theorem dr_cX17_look_165 : decode cX17_look 165 = .ok (.getfield 368, 3) := by decide +kernel
theorem dr_cX17_look_168 : decode cX17_look 168 = .ok (.invokevirtual 250, 3) := by decide +kernel
theorem wr_11_33 : (Jvm.Cond.methodLink "SpillForgeModel" (250 : Nat) ({ cls := "SpillForgeModel", name := "weigh", desc := "(LSpillForgeModel$Code;)V" } : Jvm.MethodName)) ∈ gw := gw_11 33 rfl rfl
theorem wr_11_36 : (Jvm.Cond.code ({ cls := "SpillForgeModel", name := "weigh", desc := "(LSpillForgeModel$Code;)V" } : Jvm.MethodName) prog_14_method_15_code (7 : Nat) (Option.none : Option Jvm.ClassFile.FieldType)) ∈ gw := gw_11 36 rfl rfl
theorem wr_11_35 : (Jvm.Cond.instanceMethod ({ cls := "SpillForgeModel", name := "weigh", desc := "(LSpillForgeModel$Code;)V" } : Jvm.MethodName)) ∈ gw := gw_11 35 rfl rfl
theorem wr_p_104 : Cond.selects "SpillForgeModel" ⟨"SpillForgeModel", "weigh", "(LSpillForgeModel$Code;)V"⟩ ⟨"SpillForgeModel", "weigh", "(LSpillForgeModel$Code;)V"⟩ ∈ gw := gw_p _ 104 rfl rfl rfl
theorem dr_cX17_look_171 : decode cX17_look 171 = .ok (.iload_n 2, 1) := by decide +kernel
theorem dr_cX17_look_172 : decode cX17_look 172 = .ok (.ifCond .ne 12, 3) := by decide +kernel
theorem dr_cX17_look_184 : decode cX17_look 184 = .ok (.aload_n 0, 1) := by decide +kernel
theorem dr_cX17_look_185 : decode cX17_look 185 = .ok (.getfield 135, 3) := by decide +kernel
theorem dr_cX17_look_188 : decode cX17_look 188 = .ok (.iload_n 1, 1) := by decide +kernel
theorem dr_cX17_look_189 : decode cX17_look 189 = .ok (.aaload, 1) := by decide +kernel
theorem dr_cX17_look_190 : decode cX17_look 190 = .ok (.invokestatic 202, 3) := by decide +kernel
theorem dr_cX17_look_193 : decode cX17_look 193 = .ok (.ireturn, 1) := by decide +kernel
theorem dr_cX17_look_175 : decode cX17_look 175 = .ok (.aload_n 0, 1) := by decide +kernel
theorem dr_cX17_look_176 : decode cX17_look 176 = .ok (.getfield 174, 3) := by decide +kernel
theorem dr_cX17_look_179 : decode cX17_look 179 = .ok (.iload_n 1, 1) := by decide +kernel
theorem dr_cX17_look_180 : decode cX17_look 180 = .ok (.iaload, 1) := by decide +kernel
theorem dr_cX17_look_181 : decode cX17_look 181 = .ok (.goto 12, 3) := by decide +kernel
theorem dr_cX17_look_38 : decode cX17_look 38 = .ok (.iload_n 1, 1) := by decide +kernel
theorem dr_cX17_look_39 : decode cX17_look 39 = .ok (.ifCond .lt 14, 3) := by decide +kernel
theorem dr_cX17_look_53 : decode cX17_look 53 = .ok (.aload_n 0, 1) := by decide +kernel
theorem dr_cX17_look_54 : decode cX17_look 54 = .ok (.iconst 3, 1) := by decide +kernel
theorem dr_cX17_look_55 : decode cX17_look 55 = .ok (.invokevirtual 385, 3) := by decide +kernel
theorem dr_cX17_look_58 : decode cX17_look 58 = .ok (.ireturn, 1) := by decide +kernel
theorem dr_cX17_look_42 : decode cX17_look 42 = .ok (.iload_n 1, 1) := by decide +kernel
theorem dr_cX17_look_43 : decode cX17_look 43 = .ok (.aload_n 0, 1) := by decide +kernel
theorem dr_cX17_look_44 : decode cX17_look 44 = .ok (.getfield 361, 3) := by decide +kernel
theorem dr_cX17_look_47 : decode cX17_look 47 = .ok (.invokevirtual 96, 3) := by decide +kernel
theorem dr_cX17_look_50 : decode cX17_look 50 = .ok (.if_icmp .lt 9, 3) := by decide +kernel
theorem dr_cX17_look_59 : decode cX17_look 59 = .ok (.aload_n 0, 1) := by decide +kernel
theorem dr_cX17_look_60 : decode cX17_look 60 = .ok (.aload_n 0, 1) := by decide +kernel
theorem dr_cX17_look_61 : decode cX17_look 61 = .ok (.getfield 361, 3) := by decide +kernel
theorem dr_cX17_look_64 : decode cX17_look 64 = .ok (.iconst 0, 1) := by decide +kernel
theorem dr_cX17_look_65 : decode cX17_look 65 = .ok (.invokevirtual 127, 3) := by decide +kernel
theorem dr_cX17_look_68 : decode cX17_look 68 = .ok (.aload_n 0, 1) := by decide +kernel
theorem dr_cX17_look_69 : decode cX17_look 69 = .ok (.aload_n 0, 1) := by decide +kernel
theorem dr_cX17_look_70 : decode cX17_look 70 = .ok (.getfield 361, 3) := by decide +kernel
theorem dr_cX17_look_73 : decode cX17_look 73 = .ok (.invokevirtual 170, 3) := by decide +kernel
theorem dr_cX17_look_76 : decode cX17_look 76 = .ok (.iload_n 2, 1) := by decide +kernel
theorem dr_cX17_look_77 : decode cX17_look 77 = .ok (.iconst 2, 1) := by decide +kernel
theorem dr_cX17_look_78 : decode cX17_look 78 = .ok (.if_icmp .ne 15, 3) := by decide +kernel
theorem dr_cX17_look_93 : decode cX17_look 93 = .ok (.aload_n 0, 1) := by decide +kernel
theorem dr_cX17_look_94 : decode cX17_look 94 = .ok (.getfield 152, 3) := by decide +kernel
theorem dr_cX17_look_97 : decode cX17_look 97 = .ok (.iload_n 1, 1) := by decide +kernel
theorem dr_cX17_look_98 : decode cX17_look 98 = .ok (.iaload, 1) := by decide +kernel
theorem dr_cX17_look_99 : decode cX17_look 99 = .ok (.ireturn, 1) := by decide +kernel
theorem dr_cX17_look_81 : decode cX17_look 81 = .ok (.aload_n 0, 1) := by decide +kernel
theorem dr_cX17_look_82 : decode cX17_look 82 = .ok (.getfield 88, 3) := by decide +kernel
theorem dr_cX17_look_85 : decode cX17_look 85 = .ok (.iload_n 1, 1) := by decide +kernel
theorem dr_cX17_look_86 : decode cX17_look 86 = .ok (.aaload, 1) := by decide +kernel
theorem dr_cX17_look_87 : decode cX17_look 87 = .ok (.invokestatic 202, 3) := by decide +kernel
theorem dr_cX17_look_90 : decode cX17_look 90 = .ok (.goto 9, 3) := by decide +kernel
theorem dr_cX17_look_12 : decode cX17_look 12 = .ok (.aload_n 0, 1) := by decide +kernel
theorem dr_cX17_look_13 : decode cX17_look 13 = .ok (.iconst 1, 1) := by decide +kernel
theorem dr_cX17_look_14 : decode cX17_look 14 = .ok (.invokevirtual 385, 3) := by decide +kernel
theorem dr_cX17_look_17 : decode cX17_look 17 = .ok (.ireturn, 1) := by decide +kernel
abbrev ky_586818_SpillForgeModel_word : gKey := (cX17_word_, 5, "SpillForgeModel", (some FieldType.long), [], "word", fun _ _ => True)
def pt_586818_SpillForgeModel_word (D : va_G) (I : FieldType → ClassId) (γ el : Nat → Nat → Nat) (P586814 : List Nat) (F586815 : Nat → va_E) (q586816 : Nat) (p586817 : Int32) : Option Value → va_W → Nat → Nat → Prop := fun r w dc ds => ∃ (F587172 : Nat → va_E) (ol587171 : Int64), r = some (.long ol587171) ∧ w = va_pl P586814 F587172 ∧ RS D I P586814 F587172 γ el ∧ rStr γ [] F586815 F587172 ∧ dc ≤ 0 ∧ ds ≤ 0 ∧ (fI (F587172 q586816) 9).toInt = (fI (F586815 q586816) 9).toInt ∧ (fI (F587172 q586816) 10).toInt = (fI (F586815 q586816) 10).toInt ∧ (fI (F587172 q586816) 32).toInt = (fI (F586815 q586816) 32).toInt
set_option maxRecDepth 100000 in
set_option maxHeartbeats 4000000 in
theorem ct_586818_SpillForgeModel_word (l : Launch) (hl0 : l.stackTraces = false) (D : va_G) (I : FieldType → ClassId) (γ el : Nat → Nat → Nat) (P586814 : List Nat) (F586815 : Nat → va_E) (q586816 : Nat) (p586817 : Int32) (hT : RS D I P586814 F586815 γ el) (htq586816 : rKd γ q586816 10) : CtA (gV D I) l yX17_word_ cX17_word_ 5 (some FieldType.long) 1 21 0 0 [.ref q586816, .int p586817] (va_pl P586814 F586815) (pt_586818_SpillForgeModel_word D I γ el P586814 F586815 q586816 p586817) gNA := by
  refine CtA_of hl0 (by decide) (Nat.le_of_ble_eq_true rfl) ?_
  have bp586817 := gB_any p586817
  have hm586819 : q586816 ∈ P586814 := RS_m hT htq586816 (by decide)
  refine rk10_e (show rk_10 γ (F586815 q586816) from RS_o hT htq586816) (fun q586821 q586822 p586823 p586824 p586825 p586826 p586827 p586828 p586829 p586830 p586831 p586832 p586833 p586834 p586835 p586836 p586837 he586820 hB586864 ht586838 ht586839 ht586840 ht586841 ht586842 ht586843 ht586844 ht586845 ht586846 ht586847 ht586848 ht586849 ht586850 ht586851 ht586852 ht586853 ht586854 ht586855 ht586856 ht586857 ht586858 ht586859 ht586860 ht586861 hB586865 => ?_)
  have ac586866 : (fI (F586815 q586816) 9).toInt = p586823.toInt := by rw [he586820]; rfl
  have bp586823 : gB p586823 0 1 := (hB586864.1)
  have ac586867 : (fI (F586815 q586816) 10).toInt = p586824.toInt := by rw [he586820]; rfl
  have bp586824 : gB p586824 0 1 := (hB586864.2.1)
  have ac586868 : (fI (F586815 q586816) 32).toInt = p586835.toInt := by rw [he586820]; rfl
  have bp586835 : gB p586835 0 8192 := (hB586864.2.2.2.2.2.2.2.1)
  have fq586869 : γ 6 (γ 1 (γ 9 6)) = γ 6 0 := by rw [show γ 1 (γ 9 6) = 0 from ht586859]
  have fq586870 : γ 6 (γ 1 (γ 9 7)) = γ 6 1 := by rw [show γ 1 (γ 9 7) = 1 from ht586860]
  have fq586871 : γ 6 (γ 1 (γ 9 8)) = γ 6 2 := by rw [show γ 1 (γ 9 8) = 2 from ht586861]
  have r586872 : p586837.toInt ≤ γ 12 q586822 := by have z := hB586865; unfold rM2 at z; exact z.2.2
  refine G_aload_n 0 dr_cX17_word__0 rfl ?_
  refine G_iconst 0 dr_cX17_word__1 (by decide +kernel) ?_
  refine Gp_put 30 hm586819 he586820 dr_cX17_word__2 (gk_X17 D I) (Nat.le_of_ble_eq_true rfl) wr_7_104 rfl rfl rfl (Nat.le_of_ble_eq_true rfl) (fun F586873 e586874 n586875 => ?_)
  have he586876 : F586873 q586816 = .inr (22, [.ref (γ 9 0), .ref (γ 9 1), .ref (γ 9 2), .ref (γ 9 3), .ref (γ 9 4), .ref (γ 9 5), .ref (γ 9 6), .ref (γ 9 7), .ref (γ 9 8), .int p586823, .int p586824, .int p586825, .int p586826, .int p586827, .int p586828, .ref (γ 9 15), .ref (γ 9 16), .ref (γ 9 17), .ref (γ 9 18), .ref (γ 9 19), .ref (γ 9 20), .ref (γ 9 21), .ref (γ 9 22), .int p586829, .int p586830, .int p586831, .int p586832, .int p586833, .ref q586821, .ref (γ 9 29), .int 0, .ref (γ 9 31), .int p586835, .int p586836, .int p586837, .ref q586822]) := e586874
  have hs586877 : rStr γ [] F586815 F586873 := rStr_put (rStr_rf (γ := γ) (W := []) (F := F586815)) n586875 htq586816 (by decide)
  refine G_iload_n 1 dr_cX17_word__5 rfl ?_
  refine G_if_lt 17 dr_cX17_word__6 (by decide +kernel) (fun hc586878 => ?_) (fun hc586878 => ?_)
  · have r586879 : p586817.toInt < 0 := gj_lt hc586878 (show Int32.toInt 0 = 0 by decide)
    have bp586817' : gB p586817 (-2147483648) (-1) := ⟨by omega, by omega⟩
    refine G_aload_n 0 dr_cX17_word__17 rfl ?_
    refine G_iconst 1 dr_cX17_word__18 (by decide +kernel) ?_
    have hT586880 : RS D I P586814 F586873 γ el := RS_set hT n586875 htq586816 (by decide) ⟨q586821, q586822, p586823, p586824, p586825, p586826, p586827, p586828, p586829, p586830, p586831, p586832, p586833, 0, p586835, p586836, p586837, he586876, ⟨bp586823, bp586824, (hB586864.2.2.1), (hB586864.2.2.2.1), (hB586864.2.2.2.2.1), (hB586864.2.2.2.2.2.1), (hB586864.2.2.2.2.2.2.1), bp586835, (hB586864.2.2.2.2.2.2.2.2)⟩, ht586838, ht586839, ht586840, ht586841, ht586842, ht586843, ht586844, ht586845, ht586846, ht586847, ht586848, ht586849, ht586850, ht586851, ht586852, ht586853, ht586854, ht586855, ht586856, ht586857, ht586858, ht586859, ht586860, ht586861, hB586865⟩
    have ac586881 : (fI (F586873 q586816) 9).toInt = p586823.toInt := by rw [he586876]; rfl
    have ac586882 : (fI (F586873 q586816) 10).toInt = p586824.toInt := by rw [he586876]; rfl
    have ac586883 : (fI (F586873 q586816) 32).toInt = p586835.toInt := by rw [he586876]; rfl
    refine Gw_callV (As := [.int 1]) (gV_ok D I) (ct_578755_SpillForgeModel_no l hl0 D I γ el P586814 F586873 q586816 1 hT586880 htq586816) dr_cX17_word__19 ⟨wr_7_191, wr_1_14, wr_7_194, by decide, rfl, (Nat.le_of_ble_eq_true rfl), (Nat.le_of_ble_eq_true rfl)⟩ wr_7_193 wr_p_73 hm586819 he586876 rfl (show 0 + 0 ≤ 0 by first | omega | decide) (show 0 + 0 ≤ 0 by first | omega | decide) (Nat.le_of_ble_eq_true rfl) (fun r586887 w586888 dc586884 ds586885 hp586886 => ?_) (fun _ _ _ _ _ z => z.elim)
    obtain ⟨F586893, rfl, rfl, hT586894, hs586895, hdc, hds, x586889, x586890, x586891, x586892⟩ := hp586886
    have hs586896 : rStr γ [] F586815 F586893 := rStr_tr hs586877 hs586895
    rw [show Int32.toInt 1 = 1 from by decide] at x586892
    change G _ _ _ _ _ _ _ (.int 0 :: _) _ _ _
    refine G_widen (cs' := 0) (sl' := 0) (by omega) (by omega) ?_
    refine G_i2l dr_cX17_word__22 (G_namL fun u586897 hu586897 => ?_)
    have hm586898 : q586816 ∈ P586814 := RS_m hT586894 htq586816 (by decide)
    refine rk10_e (show rk_10 γ (F586893 q586816) from RS_o hT586894 htq586816) (fun q586900 q586901 p586902 p586903 p586904 p586905 p586906 p586907 p586908 p586909 p586910 p586911 p586912 p586913 p586914 p586915 p586916 he586899 hB586943 ht586917 ht586918 ht586919 ht586920 ht586921 ht586922 ht586923 ht586924 ht586925 ht586926 ht586927 ht586928 ht586929 ht586930 ht586931 ht586932 ht586933 ht586934 ht586935 ht586936 ht586937 ht586938 ht586939 ht586940 hB586944 => ?_)
    have ac586945 : (fI (F586893 q586816) 9).toInt = p586902.toInt := by rw [he586899]; rfl
    have bp586902 : gB p586902 0 1 := (hB586943.1)
    have ac586946 : (fI (F586893 q586816) 10).toInt = p586903.toInt := by rw [he586899]; rfl
    have bp586903 : gB p586903 0 1 := (hB586943.2.1)
    have ac586947 : (fI (F586893 q586816) 32).toInt = p586914.toInt := by rw [he586899]; rfl
    have bp586914 : gB p586914 0 8192 := (hB586943.2.2.2.2.2.2.2.1)
    have ac586948 : (fI (F586893 q586816) 9).toInt = p586902.toInt := by rw [he586899]; rfl
    have ac586949 : (fI (F586893 q586816) 10).toInt = p586903.toInt := by rw [he586899]; rfl
    have ac586950 : (fI (F586893 q586816) 32).toInt = p586914.toInt := by rw [he586899]; rfl
    exact G_lretA dr_cX17_word__23 rfl (Nat.le_of_ble_eq_true rfl) (Nat.le_of_ble_eq_true rfl) ⟨F586893, u586897, rfl, rfl, hT586894, hs586896, (Nat.le_of_ble_eq_true rfl), (Nat.le_of_ble_eq_true rfl), (by omega), (by omega), (by omega)⟩
  · have r586951 : 0 ≤ p586817.toInt := gj_nlt hc586878 (show Int32.toInt 0 = 0 by decide)
    have bp586817' : gB p586817 0 2147483647 := ⟨by omega, by omega⟩
    refine G_iload_n 1 dr_cX17_word__9 rfl ?_
    refine G_aload_n 0 dr_cX17_word__10 rfl ?_
    refine Gp_get 34 hm586819 he586876 dr_cX17_word__11 (gk_X17 D I) (Nat.le_of_ble_eq_true rfl) wr_7_108 rfl ?_
    have bp586837 : gB p586837 0 16777216 := (hB586864.2.2.2.2.2.2.2.2)
    refine G_icmp_lt 24 dr_cX17_word__14 (by decide +kernel) (fun hc586952 => ?_) (fun hc586952 => ?_)
    · have r586953 : p586817.toInt < p586837.toInt := gC_lt hc586952
      have bp586817'' : gB p586817 0 16777215 := ⟨by omega, by omega⟩
      have bp586837' : gB p586837 1 16777216 := ⟨by omega, by omega⟩
      refine G_lconst 0 dr_cX17_word__24 rfl ?_
      refine G_lstore_n (L' := [(2, .long 0), (0, .ref q586816), (1, .int p586817)]) dr_cX17_word__25 (Nat.le_of_ble_eq_true rfl) rfl ?_
      refine G_iconst 0 dr_cX17_word__26 (by decide +kernel) ?_
      refine G_istore (L' := [(4, .int 0), (2, .long 0), (0, .ref q586816), (1, .int p586817)]) dr_cX17_word__27 (Nat.le_of_ble_eq_true rfl) rfl ?_
      have hT586954 : RS D I P586814 F586873 γ el := RS_set hT n586875 htq586816 (by decide) ⟨q586821, q586822, p586823, p586824, p586825, p586826, p586827, p586828, p586829, p586830, p586831, p586832, p586833, 0, p586835, p586836, p586837, he586876, ⟨bp586823, bp586824, (hB586864.2.2.1), (hB586864.2.2.2.1), (hB586864.2.2.2.2.1), (hB586864.2.2.2.2.2.1), (hB586864.2.2.2.2.2.2.1), bp586835, (gB_w bp586837' (by decide) (by decide))⟩, ht586838, ht586839, ht586840, ht586841, ht586842, ht586843, ht586844, ht586845, ht586846, ht586847, ht586848, ht586849, ht586850, ht586851, ht586852, ht586853, ht586854, ht586855, ht586856, ht586857, ht586858, ht586859, ht586860, ht586861, hB586865⟩
      have hlp29_587064 : ∀ (n29_587064 : Nat) (g587063 : Int32) (gl587064 : Int64), gB g587063 0 8 → ((9 : Int) - g587063.toInt).toNat < n29_587064 → G (gV D I) l (gRm 1 21 0 0) (gMA (gV D I) (pt_586818_SpillForgeModel_word D I γ el P586814 F586815 q586816 p586817) gNA 0 0) ky_586818_SpillForgeModel_word 29 [(4, .int g587063), (2, .long gl587064), (0, .ref q586816), (1, .int p586817)] [] (va_pl P586814 F586873) 0 0 := by
        intro n29_587064
        induction n29_587064 with
        | zero => intro g587063 gl587064 bg587063 hm29_587064; exact absurd hm29_587064 (Nat.not_lt_zero _)
        | succ n29_587064 ih29_587064 =>
          intro g587063 gl587064 bg587063 hm29_587064
          refine G_iload 0 dr_cX17_word__29 rfl ?_
          refine G_bipush 8 dr_cX17_word__31 (by decide +kernel) ?_
          refine G_icmp_ge 77 dr_cX17_word__33 (by decide +kernel) (fun hc587066 => ?_) (fun hc587066 => ?_)
          · have r587067 : 8 ≤ g587063.toInt := gj_leL hc587066 (show Int32.toInt 8 = 8 by decide)
            have bg587063' : gB g587063 8 8 := ⟨by omega, by omega⟩
            refine G_lload_n 1 dr_cX17_word__77 rfl ?_
            have ac587068 : (fI (F586873 q586816) 9).toInt = p586823.toInt := by rw [he586876]; rfl
            have ac587069 : (fI (F586873 q586816) 10).toInt = p586824.toInt := by rw [he586876]; rfl
            have ac587070 : (fI (F586873 q586816) 32).toInt = p586835.toInt := by rw [he586876]; rfl
            exact G_lretA dr_cX17_word__78 rfl (Nat.le_of_ble_eq_true rfl) (Nat.le_of_ble_eq_true rfl) ⟨F586873, gl587064, rfl, rfl, hT586954, hs586877, (Nat.le_of_ble_eq_true rfl), (Nat.le_of_ble_eq_true rfl), (by omega), (by omega), (by omega)⟩
          · have r587071 : g587063.toInt < 8 := gj_nleL hc587066 (show Int32.toInt 8 = 8 by decide)
            have bg587063' : gB g587063 0 7 := ⟨by omega, by omega⟩
            refine G_lload_n 1 dr_cX17_word__36 rfl ?_
            refine G_bipush 8 dr_cX17_word__37 (by decide +kernel) ?_
            refine G_lshl dr_cX17_word__39 (G_namL fun u587072 hu587072 => ?_)
            refine G_iload_n 3 dr_cX17_word__40 rfl ?_
            refine G_iload 0 dr_cX17_word__41 rfl ?_
            refine G_iadd dr_cX17_word__43 (G_nam fun z587073 hz587073 => ?_)
            have ez587073 : z587073.toInt = p586817.toInt + g587063.toInt := by rw [gI_add hz587073 bp586817'' bg587063' (by decide) (by decide)]
            have bz587073 : gB z587073 0 16777222 := gB_add (gI_add hz587073 bp586817'' bg587063' (by decide) (by decide)) bp586817'' bg587063' (by decide) (by decide)
            refine G_aload_n 2 dr_cX17_word__44 rfl ?_
            refine Gp_get 34 hm586819 he586876 dr_cX17_word__45 (gk_X17 D I) (Nat.le_of_ble_eq_true rfl) wr_7_108 rfl ?_
            refine G_icmp_ge 67 dr_cX17_word__48 (by decide +kernel) (fun hc587074 => ?_) (fun hc587074 => ?_)
            · have r587075 : p586837.toInt ≤ z587073.toInt := gC_le hc587074
              have bz587073' : gB z587073 1 16777222 := ⟨by omega, by omega⟩
              refine G_iconst 0 dr_cX17_word__67 (by decide +kernel) ?_
              refine G_i2l dr_cX17_word__68 (G_namL fun u587076 hu587076 => ?_)
              refine G_lor dr_cX17_word__69 (G_namL fun u587077 hu587077 => ?_)
              refine G_lstore_n (L' := [(2, .long u587077), (4, .int g587063), (0, .ref q586816), (1, .int p586817)]) dr_cX17_word__70 (Nat.le_of_ble_eq_true rfl) rfl ?_
              obtain ⟨z587078, hz587078⟩ : ∃ z : Int32, z = g587063 + Int32.ofInt 1 := ⟨_, rfl⟩
              have ez587078 : z587078.toInt = g587063.toInt + 1 := gI_inc hz587078 (by decide) bg587063' (by decide) (by decide)
              have bz587078 : gB z587078 1 8 := ⟨by omega, by omega⟩
              refine G_iinc (L' := [(4, .int z587078), (2, .long u587077), (0, .ref q586816), (1, .int p586817)]) z587078 1 dr_cX17_word__71 rfl hz587078.symm (Nat.le_of_ble_eq_true rfl) rfl ?_
              refine G_goto 29 dr_cX17_word__74 (by decide +kernel) ?_
              have ac587079 : (fI (F586873 q586816) 9).toInt = p586823.toInt := by rw [he586876]; rfl
              have ac587080 : (fI (F586873 q586816) 10).toInt = p586824.toInt := by rw [he586876]; rfl
              have ac587081 : (fI (F586873 q586816) 32).toInt = p586835.toInt := by rw [he586876]; rfl
              exact ih29_587064 z587078 u587077 (gB_w bz587078 (by decide) (by decide)) (mz_up ez587078 (Int.le_trans bg587063'.2 (by decide)) hm29_587064)
            · have r587082 : z587073.toInt < p586837.toInt := gC_nle hc587074
              have bz587073' : gB z587073 0 16777215 := ⟨by omega, by omega⟩
              refine G_aload_n 2 dr_cX17_word__51 rfl ?_
              refine Gp_get 35 hm586819 he586876 dr_cX17_word__52 (gk_X17 D I) (Nat.le_of_ble_eq_true rfl) wr_7_109 rfl ?_
              refine G_iload_n 3 dr_cX17_word__55 rfl ?_
              refine G_iload 0 dr_cX17_word__56 rfl ?_
              refine G_iadd dr_cX17_word__58 (G_nam fun z587083 hz587083 => ?_)
              have ez587083 : z587083.toInt = p586817.toInt + g587063.toInt := by rw [gI_add hz587083 bp586817'' bg587063' (by decide) (by decide)]
              have bz587083 : gB z587083 0 16777222 := gB_add (gI_add hz587083 bp586817'' bg587063' (by decide) (by decide)) bp586817'' bg587063' (by decide) (by decide)
              have hm587084 : q586822 ∈ P586814 := RS_m hT586954 ht586839 (by decide)
              obtain ⟨n587087, f587086, he587085, bf587086, hn587087, gn587087⟩ := show rk_27 I γ q586822 (F586873 q586822) from RS_o hT586954 ht586839
              refine Gp_bald 1 hm587084 he587085 dr_cX17_word__59 rfl (gB_inr (by omega) (by omega)) (G_nam fun z587088 hz587088 => ?_)
              have bz587088 : gB z587088 (-128) 127 := by rw [hz587088]; exact bf587086 _
              refine G_sipush 255 dr_cX17_word__60 (by decide +kernel) ?_
              refine G_iand dr_cX17_word__63 (G_nam fun z587089 hz587089 => ?_)
              have bz587089 : gB z587089 0 255 := gB_and hz587089 (gBl (show Int32.toInt 255 = 255 by decide)) (by decide)
              refine G_goto 68 dr_cX17_word__64 (by decide +kernel) ?_
              refine G_i2l dr_cX17_word__68 (G_namL fun u587090 hu587090 => ?_)
              refine G_lor dr_cX17_word__69 (G_namL fun u587091 hu587091 => ?_)
              refine G_lstore_n (L' := [(2, .long u587091), (4, .int g587063), (0, .ref q586816), (1, .int p586817)]) dr_cX17_word__70 (Nat.le_of_ble_eq_true rfl) rfl ?_
              obtain ⟨z587092, hz587092⟩ : ∃ z : Int32, z = g587063 + Int32.ofInt 1 := ⟨_, rfl⟩
              have ez587092 : z587092.toInt = g587063.toInt + 1 := gI_inc hz587092 (by decide) bg587063' (by decide) (by decide)
              have bz587092 : gB z587092 1 8 := ⟨by omega, by omega⟩
              refine G_iinc (L' := [(4, .int z587092), (2, .long u587091), (0, .ref q586816), (1, .int p586817)]) z587092 1 dr_cX17_word__71 rfl hz587092.symm (Nat.le_of_ble_eq_true rfl) rfl ?_
              refine G_goto 29 dr_cX17_word__74 (by decide +kernel) ?_
              have ac587093 : (fI (F586873 q586816) 9).toInt = p586823.toInt := by rw [he586876]; rfl
              have ac587094 : (fI (F586873 q586816) 10).toInt = p586824.toInt := by rw [he586876]; rfl
              have ac587095 : (fI (F586873 q586816) 32).toInt = p586835.toInt := by rw [he586876]; rfl
              exact ih29_587064 z587092 u587091 (gB_w bz587092 (by decide) (by decide)) (mz_up ez587092 (Int.le_trans bg587063'.2 (by decide)) hm29_587064)
      have ac587096 : (fI (F586873 q586816) 9).toInt = p586823.toInt := by rw [he586876]; rfl
      have ac587097 : (fI (F586873 q586816) 10).toInt = p586824.toInt := by rw [he586876]; rfl
      have ac587098 : (fI (F586873 q586816) 32).toInt = p586835.toInt := by rw [he586876]; rfl
      exact hlp29_587064 (((9 : Int) - 0).toNat + 1) 0 0 (gB_w (gBl (show Int32.toInt 0 = 0 by decide)) (by decide) (by decide)) (Nat.lt_succ_self _)
    · have r587099 : p586837.toInt ≤ p586817.toInt := gC_nlt hc586952
      refine G_aload_n 0 dr_cX17_word__17 rfl ?_
      refine G_iconst 1 dr_cX17_word__18 (by decide +kernel) ?_
      have hT587100 : RS D I P586814 F586873 γ el := RS_set hT n586875 htq586816 (by decide) ⟨q586821, q586822, p586823, p586824, p586825, p586826, p586827, p586828, p586829, p586830, p586831, p586832, p586833, 0, p586835, p586836, p586837, he586876, ⟨bp586823, bp586824, (hB586864.2.2.1), (hB586864.2.2.2.1), (hB586864.2.2.2.2.1), (hB586864.2.2.2.2.2.1), (hB586864.2.2.2.2.2.2.1), bp586835, bp586837⟩, ht586838, ht586839, ht586840, ht586841, ht586842, ht586843, ht586844, ht586845, ht586846, ht586847, ht586848, ht586849, ht586850, ht586851, ht586852, ht586853, ht586854, ht586855, ht586856, ht586857, ht586858, ht586859, ht586860, ht586861, hB586865⟩
      have ac587101 : (fI (F586873 q586816) 9).toInt = p586823.toInt := by rw [he586876]; rfl
      have ac587102 : (fI (F586873 q586816) 10).toInt = p586824.toInt := by rw [he586876]; rfl
      have ac587103 : (fI (F586873 q586816) 32).toInt = p586835.toInt := by rw [he586876]; rfl
      refine Gw_callV (As := [.int 1]) (gV_ok D I) (ct_578755_SpillForgeModel_no l hl0 D I γ el P586814 F586873 q586816 1 hT587100 htq586816) dr_cX17_word__19 ⟨wr_7_191, wr_1_14, wr_7_194, by decide, rfl, (Nat.le_of_ble_eq_true rfl), (Nat.le_of_ble_eq_true rfl)⟩ wr_7_193 wr_p_73 hm586819 he586876 rfl (show 0 + 0 ≤ 0 by first | omega | decide) (show 0 + 0 ≤ 0 by first | omega | decide) (Nat.le_of_ble_eq_true rfl) (fun r587107 w587108 dc587104 ds587105 hp587106 => ?_) (fun _ _ _ _ _ z => z.elim)
      obtain ⟨F587113, rfl, rfl, hT587114, hs587115, hdc, hds, x587109, x587110, x587111, x587112⟩ := hp587106
      have hs587116 : rStr γ [] F586815 F587113 := rStr_tr hs586877 hs587115
      rw [show Int32.toInt 1 = 1 from by decide] at x587112
      change G _ _ _ _ _ _ _ (.int 0 :: _) _ _ _
      refine G_widen (cs' := 0) (sl' := 0) (by omega) (by omega) ?_
      refine G_i2l dr_cX17_word__22 (G_namL fun u587117 hu587117 => ?_)
      have hm587118 : q586816 ∈ P586814 := RS_m hT587114 htq586816 (by decide)
      refine rk10_e (show rk_10 γ (F587113 q586816) from RS_o hT587114 htq586816) (fun q587120 q587121 p587122 p587123 p587124 p587125 p587126 p587127 p587128 p587129 p587130 p587131 p587132 p587133 p587134 p587135 p587136 he587119 hB587163 ht587137 ht587138 ht587139 ht587140 ht587141 ht587142 ht587143 ht587144 ht587145 ht587146 ht587147 ht587148 ht587149 ht587150 ht587151 ht587152 ht587153 ht587154 ht587155 ht587156 ht587157 ht587158 ht587159 ht587160 hB587164 => ?_)
      have ac587165 : (fI (F587113 q586816) 9).toInt = p587122.toInt := by rw [he587119]; rfl
      have bp587122 : gB p587122 0 1 := (hB587163.1)
      have ac587166 : (fI (F587113 q586816) 10).toInt = p587123.toInt := by rw [he587119]; rfl
      have bp587123 : gB p587123 0 1 := (hB587163.2.1)
      have ac587167 : (fI (F587113 q586816) 32).toInt = p587134.toInt := by rw [he587119]; rfl
      have bp587134 : gB p587134 0 8192 := (hB587163.2.2.2.2.2.2.2.1)
      have ac587168 : (fI (F587113 q586816) 9).toInt = p587122.toInt := by rw [he587119]; rfl
      have ac587169 : (fI (F587113 q586816) 10).toInt = p587123.toInt := by rw [he587119]; rfl
      have ac587170 : (fI (F587113 q586816) 32).toInt = p587134.toInt := by rw [he587119]; rfl
      exact G_lretA dr_cX17_word__23 rfl (Nat.le_of_ble_eq_true rfl) (Nat.le_of_ble_eq_true rfl) ⟨F587113, u587117, rfl, rfl, hT587114, hs587116, (Nat.le_of_ble_eq_true rfl), (Nat.le_of_ble_eq_true rfl), (by omega), (by omega), (by omega)⟩
/- tr_RModel_no2: F -/
def tr_RModel_no2 (D : va_G) (I : FieldType → ClassId) (γ el : Nat → Nat → Nat) (F : Nat → va_E) (q0 : Nat) (a1 : Int32) (o1 : Nat → va_E) : Prop := ∀ R : (Nat → va_E) → Prop,
  (∀ (x1 : Nat → va_E), (∀ b, b ≠ q0 → x1 b = F b) → x1 q0 = cF (F q0) 30 (.int a1) → R x1) →
  R o1
abbrev ky_587261_SpillForgeModel_no : gKey := (cX17_no, 2, "SpillForgeModel", (some FieldType.int), [], "no", fun _ _ => True)
def pt_587261_SpillForgeModel_no (D : va_G) (I : FieldType → ClassId) (γ el : Nat → Nat → Nat) (P587257 : List Nat) (F587258 : Nat → va_E) (q587259 : Nat) (p587260 : Int32) : Option Value → va_W → Nat → Nat → Prop := fun r w dc ds => ∃ (F587319 : Nat → va_E), r = some (.int 0) ∧ w = va_pl P587257 F587319 ∧ RS D I P587257 F587319 γ el ∧ rStr γ [] F587258 F587319 ∧ dc ≤ 0 ∧ ds ≤ 0 ∧ (fI (F587319 q587259) 10).toInt = (fI (F587258 q587259) 10).toInt ∧ mKp (F587258 q587259) (F587319 q587259) ∧ tr_RModel_no2 D I γ el F587258 q587259 p587260 F587319
set_option maxRecDepth 100000 in
set_option maxHeartbeats 4000000 in
theorem ct_587261_SpillForgeModel_no (l : Launch) (hl0 : l.stackTraces = false) (D : va_G) (I : FieldType → ClassId) (γ el : Nat → Nat → Nat) (P587257 : List Nat) (F587258 : Nat → va_E) (q587259 : Nat) (p587260 : Int32) (hT : RS D I P587257 F587258 γ el) (htq587259 : rKd γ q587259 10) : CtA (gV D I) l yX17_no cX17_no 2 (some FieldType.int) 0 0 0 0 [.ref q587259, .int p587260] (va_pl P587257 F587258) (pt_587261_SpillForgeModel_no D I γ el P587257 F587258 q587259 p587260) gNA := by
  refine CtA_of hl0 (by decide) (Nat.le_of_ble_eq_true rfl) ?_
  have bp587260 := gB_any p587260
  have hm587262 : q587259 ∈ P587257 := RS_m hT htq587259 (by decide)
  refine rk10_e (show rk_10 γ (F587258 q587259) from RS_o hT htq587259) (fun q587264 q587265 p587266 p587267 p587268 p587269 p587270 p587271 p587272 p587273 p587274 p587275 p587276 p587277 p587278 p587279 p587280 he587263 hB587307 ht587281 ht587282 ht587283 ht587284 ht587285 ht587286 ht587287 ht587288 ht587289 ht587290 ht587291 ht587292 ht587293 ht587294 ht587295 ht587296 ht587297 ht587298 ht587299 ht587300 ht587301 ht587302 ht587303 ht587304 hB587308 => ?_)
  have ac587309 : (fI (F587258 q587259) 10).toInt = p587267.toInt := by rw [he587263]; rfl
  have bp587267 : gB p587267 0 1 := (hB587307.2.1)
  refine G_aload_n 0 dr_cX17_no_0 rfl ?_
  refine G_iload_n 1 dr_cX17_no_1 rfl ?_
  refine Gp_put 30 hm587262 he587263 dr_cX17_no_2 (gk_X17 D I) (Nat.le_of_ble_eq_true rfl) wr_7_104 rfl rfl rfl (Nat.le_of_ble_eq_true rfl) (fun F587310 e587311 n587312 => ?_)
  have he587313 : F587310 q587259 = .inr (22, [.ref (γ 9 0), .ref (γ 9 1), .ref (γ 9 2), .ref (γ 9 3), .ref (γ 9 4), .ref (γ 9 5), .ref (γ 9 6), .ref (γ 9 7), .ref (γ 9 8), .int p587266, .int p587267, .int p587268, .int p587269, .int p587270, .int p587271, .ref (γ 9 15), .ref (γ 9 16), .ref (γ 9 17), .ref (γ 9 18), .ref (γ 9 19), .ref (γ 9 20), .ref (γ 9 21), .ref (γ 9 22), .int p587272, .int p587273, .int p587274, .int p587275, .int p587276, .ref q587264, .ref (γ 9 29), .int p587260, .ref (γ 9 31), .int p587278, .int p587279, .int p587280, .ref q587265]) := e587311
  have mk587314 : mKp (F587258 q587259) (F587310 q587259) := mKp_tr mKp_rf (by rw [he587263, he587313]; exact ⟨rfl, rfl⟩)
  have hs587315 : rStr γ [] F587258 F587310 := rStr_put (rStr_rf (γ := γ) (W := []) (F := F587258)) n587312 htq587259 (by decide)
  have fq587316 : F587310 q587259 = cF (F587258 q587259) 30 (.int p587260) := by rw [he587313, he587263]; rfl
  refine G_iconst 0 dr_cX17_no_5 (by decide +kernel) ?_
  have hT587317 : RS D I P587257 F587310 γ el := RS_set hT n587312 htq587259 (by decide) ⟨q587264, q587265, p587266, p587267, p587268, p587269, p587270, p587271, p587272, p587273, p587274, p587275, p587276, p587260, p587278, p587279, p587280, he587313, ⟨(hB587307.1), bp587267, (hB587307.2.2.1), (hB587307.2.2.2.1), (hB587307.2.2.2.2.1), (hB587307.2.2.2.2.2.1), (hB587307.2.2.2.2.2.2.1), (hB587307.2.2.2.2.2.2.2.1), (hB587307.2.2.2.2.2.2.2.2)⟩, ht587281, ht587282, ht587283, ht587284, ht587285, ht587286, ht587287, ht587288, ht587289, ht587290, ht587291, ht587292, ht587293, ht587294, ht587295, ht587296, ht587297, ht587298, ht587299, ht587300, ht587301, ht587302, ht587303, ht587304, hB587308⟩
  have ac587318 : (fI (F587310 q587259) 10).toInt = p587267.toInt := by rw [he587313]; rfl
  exact G_iretA dr_cX17_no_6 rfl (Nat.le_of_ble_eq_true rfl) (Nat.le_of_ble_eq_true rfl) ⟨F587310, rfl, rfl, hT587317, hs587315, (Nat.le_of_ble_eq_true rfl), (Nat.le_of_ble_eq_true rfl), (by have qa0 : Int32.toInt 0 = 0 := (by decide); omega), mk587314, (fun R c1 => c1 F587310 n587312 fq587316)⟩
/- tr_RModel_look: result, P, F, gm, el -/
def tr_RModel_look (D : va_G) (I : FieldType → ClassId) (γ0 el0 : Nat → Nat → Nat) (f : Nat) (fo : Nat) (P : List Nat) (F : Nat → va_E) (q0 : Nat) (a1 : Int32) (a2 : Int32) (p : Nat) (p2 : Nat) (o1 : Int32) (o2 : List Nat) (o3 : Nat → va_E) (o4 : Nat → Nat → Nat) (o5 : Nat → Nat → Nat) : Prop := ∀ R : (Int32) → (List Nat) → (Nat → va_E) → (Nat → Nat → Nat) → (Nat → Nat → Nat) → Prop,
  (∀ (x1 : Nat → Nat → Nat) (x2 : Nat → Nat → Nat) (x3 : Nat → va_E) (x4 : Int32) (x5 : Nat → va_E), x1 = γ0 → x2 = el0 → (∀ b, b ≠ q0 → x3 b = F b) → x3 q0 = cF (F q0) 30 (.int 0) → fI (x3 q0) 9 = x4 → x4.toInt ≠ 0 → a2.toInt < 0 → RS D I P x5 x1 x2 → rStr x1 [] x3 x5 → (fI (x5 q0) 10).toInt = (fI (x3 q0) 10).toInt → mKp (x3 q0) (x5 q0) → tr_RModel_no2 D I x1 x2 x3 q0 (2 : Int32) x5 → R (0 : Int32) P x5 x1 x2) →
  (∀ (x1 : Nat → Nat → Nat) (x2 : Nat → Nat → Nat) (x3 : Nat → va_E) (x4 : Int32) (x5 : Nat → va_E) (x6 : Nat → va_E), x1 = γ0 → x2 = el0 → (∀ b, b ≠ q0 → x3 b = F b) → x3 q0 = cF (F q0) 30 (.int 0) → fI (x3 q0) 9 = x4 → x4.toInt ≠ 0 → 0 ≤ a2.toInt → a2.toInt ≤ 3 → a2.toInt ≤ 1 → fR (x3 q0) 6 = (x1 9 6) → RS D I P x5 x1 x2 → rStr x1 [] x3 x5 → (gIp (0 = 0) (rGr x1 x2 x3 p2 (x1 6 (x1 1 p2)) (cB (x5 (x1 9 3))) (vA (x1 6 (x1 1 p2))))) → (x5 q0 = x3 q0) → tr_RModel_graph D I x1 x2 P x3 q0 p2 (0 : Int32) x5 → a1.toInt < 0 → RS D I P x6 x1 x2 → rStr x1 [] x5 x6 → (fI (x6 q0) 10).toInt = (fI (x5 q0) 10).toInt → mKp (x5 q0) (x6 q0) → tr_RModel_no2 D I x1 x2 x5 q0 (3 : Int32) x6 → R (0 : Int32) P x6 x1 x2) →
  (∀ (x1 : Nat → Nat → Nat) (x2 : Nat → Nat → Nat) (x3 : Nat → va_E) (x4 : Int32) (x5 : Nat → va_E) (x6 : Nat → va_E), x1 = γ0 → x2 = el0 → (∀ b, b ≠ q0 → x3 b = F b) → x3 q0 = cF (F q0) 30 (.int 0) → fI (x3 q0) 9 = x4 → x4.toInt ≠ 0 → 0 ≤ a2.toInt → a2.toInt ≤ 3 → a2.toInt ≤ 1 → fR (x3 q0) 6 = (x1 9 6) → RS D I P x5 x1 x2 → rStr x1 [] x3 x5 → (gIp (0 = 0) (rGr x1 x2 x3 p2 (x1 6 (x1 1 p2)) (cB (x5 (x1 9 3))) (vA (x1 6 (x1 1 p2))))) → (x5 q0 = x3 q0) → tr_RModel_graph D I x1 x2 P x3 q0 p2 (0 : Int32) x5 → 0 ≤ a1.toInt → 2000 ≤ a1.toInt → RS D I P x6 x1 x2 → rStr x1 [] x5 x6 → (fI (x6 q0) 10).toInt = (fI (x5 q0) 10).toInt → mKp (x5 q0) (x6 q0) → tr_RModel_no2 D I x1 x2 x5 q0 (3 : Int32) x6 → R (0 : Int32) P x6 x1 x2) →
  (∀ (x1 : Nat → Nat → Nat) (x2 : Nat → Nat → Nat) (x3 : Nat → va_E) (x4 : Int32) (x5 : Nat → va_E) (x6 : Nat → Int32) (x7 : Int32) (x8 : List Nat) (x9 : Nat → va_E) (x10 : Nat → Nat → Nat) (x11 : Nat → Nat → Nat) (x12 : List Nat) (x13 : Nat → va_E) (x14 : Nat → Nat → Nat) (x15 : Nat → Nat → Nat) (x16 : Nat → va_E) (x17 : Nat → va_E) (x18 : Nat) (x19 : Nat → Int64) (x20 : Int32), x1 = γ0 → x2 = el0 → (∀ b, b ≠ q0 → x3 b = F b) → x3 q0 = cF (F q0) 30 (.int 0) → fI (x3 q0) 9 = x4 → x4.toInt ≠ 0 → 0 ≤ a2.toInt → a2.toInt ≤ 3 → a2.toInt ≤ 1 → fR (x3 q0) 6 = (x1 9 6) → RS D I P x5 x1 x2 → rStr x1 [] x3 x5 → (gIp (0 = 0) (rGr x1 x2 x3 p2 (x1 6 (x1 1 p2)) (cB (x5 (x1 9 3))) (vA (x1 6 (x1 1 p2))))) → (x5 q0 = x3 q0) → tr_RModel_graph D I x1 x2 P x3 q0 p2 (0 : Int32) x5 → 0 ≤ a1.toInt → a1.toInt < 2000 → fR (x5 q0) 3 = (x1 9 3) → x5 (x1 9 3) = .inl (I .boolean, 2000, .inl x6) → x7 = x6 a1.toNatClampNeg → gB x7 0 1 → x7.toInt ≠ 0 → fR (x5 q0) 8 = (x1 9 8) → fR (x5 q0) 6 = (x1 9 6) → rSk f [1, 2, 3, 101, 102, 103, 202] ([1, 2, 3, 4, 5, 6, 7, 8, 9, 101, 102, 103, 202]) D I P x5 x1 x2 x8 x9 x10 x11 → x10 6 f = x1 6 fo → x10 7 f = 0 → x10 16 f ≤ x1 16 fo → x10 18 f = 0 → tr_RCode_copy D I x1 x2 f fo P x5 p p2 x8 x9 x10 x11 → fR (x9 q0) 8 = (x10 9 8) → rSk f [101] ([1, 3, 5, 6, 8, 9, 101] ++ npk) D I x8 x9 x10 x11 x12 x13 x14 x15 → x14 6 f = x10 6 f → x14 7 f = x10 7 f → x14 16 f ≤ x10 16 f + 2000 → x14 18 f = x10 18 f → (x13 q0 = x9 q0) → tr_RModel_zeros D I x10 x11 f x8 x9 q0 p x12 x13 x14 x15 → fR (x13 q0) 8 = (x14 9 8) → RS D I x12 x16 x14 x15 → rStr x14 [] x13 x16 → (gIp (0 = 0) (rGr x14 x15 x13 p (x14 6 (x14 1 p)) (cB (x16 (x14 9 3))) (vA (x14 6 (x14 1 p))))) → (x16 q0 = x13 q0) → tr_RModel_graph D I x14 x15 x12 x13 q0 p (0 : Int32) x16 → fR (x16 q0) 8 = (x14 9 8) → RS D I x12 x17 x14 x15 → rStr x14 [] x16 x17 → (x17 q0 = x16 q0) → (x17 (x14 9 3) = x16 (x14 9 3)) → tr_RModel_weigh D I x14 x15 x12 x16 q0 p x17 → a2.toInt ≠ 0 → fR (x17 q0) 1 = (x14 9 1) → x18 = x14 11 a1.toInt.toNat → x17 x18 = .inl (I .long, 32, .inr (.inl x19)) → tr_RModel_count x19 x20 → R x20 x12 x17 x14 x15) →
  (∀ (x1 : Nat → Nat → Nat) (x2 : Nat → Nat → Nat) (x3 : Nat → va_E) (x4 : Int32) (x5 : Nat → va_E) (x6 : Nat → Int32) (x7 : Int32) (x8 : List Nat) (x9 : Nat → va_E) (x10 : Nat → Nat → Nat) (x11 : Nat → Nat → Nat) (x12 : List Nat) (x13 : Nat → va_E) (x14 : Nat → Nat → Nat) (x15 : Nat → Nat → Nat) (x16 : Nat → va_E) (x17 : Nat → va_E) (x18 : Nat → Int32) (x19 : Int32), x1 = γ0 → x2 = el0 → (∀ b, b ≠ q0 → x3 b = F b) → x3 q0 = cF (F q0) 30 (.int 0) → fI (x3 q0) 9 = x4 → x4.toInt ≠ 0 → 0 ≤ a2.toInt → a2.toInt ≤ 3 → a2.toInt ≤ 1 → fR (x3 q0) 6 = (x1 9 6) → RS D I P x5 x1 x2 → rStr x1 [] x3 x5 → (gIp (0 = 0) (rGr x1 x2 x3 p2 (x1 6 (x1 1 p2)) (cB (x5 (x1 9 3))) (vA (x1 6 (x1 1 p2))))) → (x5 q0 = x3 q0) → tr_RModel_graph D I x1 x2 P x3 q0 p2 (0 : Int32) x5 → 0 ≤ a1.toInt → a1.toInt < 2000 → fR (x5 q0) 3 = (x1 9 3) → x5 (x1 9 3) = .inl (I .boolean, 2000, .inl x6) → x7 = x6 a1.toNatClampNeg → gB x7 0 1 → x7.toInt ≠ 0 → fR (x5 q0) 8 = (x1 9 8) → fR (x5 q0) 6 = (x1 9 6) → rSk f [1, 2, 3, 101, 102, 103, 202] ([1, 2, 3, 4, 5, 6, 7, 8, 9, 101, 102, 103, 202]) D I P x5 x1 x2 x8 x9 x10 x11 → x10 6 f = x1 6 fo → x10 7 f = 0 → x10 16 f ≤ x1 16 fo → x10 18 f = 0 → tr_RCode_copy D I x1 x2 f fo P x5 p p2 x8 x9 x10 x11 → fR (x9 q0) 8 = (x10 9 8) → rSk f [101] ([1, 3, 5, 6, 8, 9, 101] ++ npk) D I x8 x9 x10 x11 x12 x13 x14 x15 → x14 6 f = x10 6 f → x14 7 f = x10 7 f → x14 16 f ≤ x10 16 f + 2000 → x14 18 f = x10 18 f → (x13 q0 = x9 q0) → tr_RModel_zeros D I x10 x11 f x8 x9 q0 p x12 x13 x14 x15 → fR (x13 q0) 8 = (x14 9 8) → RS D I x12 x16 x14 x15 → rStr x14 [] x13 x16 → (gIp (0 = 0) (rGr x14 x15 x13 p (x14 6 (x14 1 p)) (cB (x16 (x14 9 3))) (vA (x14 6 (x14 1 p))))) → (x16 q0 = x13 q0) → tr_RModel_graph D I x14 x15 x12 x13 q0 p (0 : Int32) x16 → fR (x16 q0) 8 = (x14 9 8) → RS D I x12 x17 x14 x15 → rStr x14 [] x16 x17 → (x17 q0 = x16 q0) → (x17 (x14 9 3) = x16 (x14 9 3)) → tr_RModel_weigh D I x14 x15 x12 x16 q0 p x17 → a2.toInt = 0 → fR (x17 q0) 5 = (x14 9 5) → x17 (x14 9 5) = .inl (I .int, 2000, .inl x18) → x19 = x18 a1.toNatClampNeg → R x19 x12 x17 x14 x15) →
  (∀ (x1 : Nat → Nat → Nat) (x2 : Nat → Nat → Nat) (x3 : Nat → va_E) (x4 : Int32) (x5 : Nat → va_E) (x6 : Nat → Int32) (x7 : Int32) (x8 : Nat → va_E), x1 = γ0 → x2 = el0 → (∀ b, b ≠ q0 → x3 b = F b) → x3 q0 = cF (F q0) 30 (.int 0) → fI (x3 q0) 9 = x4 → x4.toInt ≠ 0 → 0 ≤ a2.toInt → a2.toInt ≤ 3 → a2.toInt ≤ 1 → fR (x3 q0) 6 = (x1 9 6) → RS D I P x5 x1 x2 → rStr x1 [] x3 x5 → (gIp (0 = 0) (rGr x1 x2 x3 p2 (x1 6 (x1 1 p2)) (cB (x5 (x1 9 3))) (vA (x1 6 (x1 1 p2))))) → (x5 q0 = x3 q0) → tr_RModel_graph D I x1 x2 P x3 q0 p2 (0 : Int32) x5 → 0 ≤ a1.toInt → a1.toInt < 2000 → fR (x5 q0) 3 = (x1 9 3) → x5 (x1 9 3) = .inl (I .boolean, 2000, .inl x6) → x7 = x6 a1.toNatClampNeg → gB x7 0 1 → x7.toInt = 0 → RS D I P x8 x1 x2 → rStr x1 [] x5 x8 → (fI (x8 q0) 10).toInt = (fI (x5 q0) 10).toInt → mKp (x5 q0) (x8 q0) → tr_RModel_no2 D I x1 x2 x5 q0 (3 : Int32) x8 → R (0 : Int32) P x8 x1 x2) →
  (∀ (x1 : Nat → Nat → Nat) (x2 : Nat → Nat → Nat) (x3 : Nat → va_E) (x4 : Int32) (x5 : Nat → va_E), x1 = γ0 → x2 = el0 → (∀ b, b ≠ q0 → x3 b = F b) → x3 q0 = cF (F q0) 30 (.int 0) → fI (x3 q0) 9 = x4 → x4.toInt ≠ 0 → 0 ≤ a2.toInt → a2.toInt ≤ 3 → 1 < a2.toInt → a1.toInt < 0 → RS D I P x5 x1 x2 → rStr x1 [] x3 x5 → (fI (x5 q0) 10).toInt = (fI (x3 q0) 10).toInt → mKp (x3 q0) (x5 q0) → tr_RModel_no2 D I x1 x2 x3 q0 (3 : Int32) x5 → R (0 : Int32) P x5 x1 x2) →
  (∀ (x1 : Nat → Nat → Nat) (x2 : Nat → Nat → Nat) (x3 : Nat → va_E) (x4 : Int32) (x5 : Int32) (x6 : Nat → va_E) (x7 : Nat → va_E) (x8 : Nat → Int32) (x9 : Int32), x1 = γ0 → x2 = el0 → (∀ b, b ≠ q0 → x3 b = F b) → x3 q0 = cF (F q0) 30 (.int 0) → fI (x3 q0) 9 = x4 → x4.toInt ≠ 0 → 0 ≤ a2.toInt → a2.toInt ≤ 3 → 1 < a2.toInt → 0 ≤ a1.toInt → fR (x3 q0) 6 = (x1 9 6) → fI (x3 p2) 3 = x5 → a1.toInt < x5.toInt → RS D I P x6 x1 x2 → rStr x1 [] x3 x6 → (x6 q0 = x3 q0) → tr_RModel_findLive D I x1 x2 P x3 q0 p2 (0 : Int32) x6 → fR (x6 q0) 6 = (x1 9 6) → RS D I P x7 x1 x2 → rStr x1 [] x6 x7 → (x7 q0 = x6 q0) → (x7 (x1 9 3) = x6 (x1 9 3)) → tr_RModel_findDepth2 D I x1 x2 P x6 q0 p2 x7 → a2.toInt ≠ 2 → fR (x7 q0) 4 = (x1 9 4) → x7 (x1 9 4) = .inl (I .int, 40, .inl x8) → x9 = x8 a1.toNatClampNeg → R x9 P x7 x1 x2) →
  (∀ (x1 : Nat → Nat → Nat) (x2 : Nat → Nat → Nat) (x3 : Nat → va_E) (x4 : Int32) (x5 : Int32) (x6 : Nat → va_E) (x7 : Nat → va_E) (x8 : Nat) (x9 : Nat → Int64) (x10 : Int32), x1 = γ0 → x2 = el0 → (∀ b, b ≠ q0 → x3 b = F b) → x3 q0 = cF (F q0) 30 (.int 0) → fI (x3 q0) 9 = x4 → x4.toInt ≠ 0 → 0 ≤ a2.toInt → a2.toInt ≤ 3 → 1 < a2.toInt → 0 ≤ a1.toInt → fR (x3 q0) 6 = (x1 9 6) → fI (x3 p2) 3 = x5 → a1.toInt < x5.toInt → RS D I P x6 x1 x2 → rStr x1 [] x3 x6 → (x6 q0 = x3 q0) → tr_RModel_findLive D I x1 x2 P x3 q0 p2 (0 : Int32) x6 → fR (x6 q0) 6 = (x1 9 6) → RS D I P x7 x1 x2 → rStr x1 [] x6 x7 → (x7 q0 = x6 q0) → (x7 (x1 9 3) = x6 (x1 9 3)) → tr_RModel_findDepth2 D I x1 x2 P x6 q0 p2 x7 → a2.toInt = 2 → fR (x7 q0) 0 = (x1 9 0) → x8 = x1 10 a1.toInt.toNat → x7 x8 = .inl (I .long, 32, .inr (.inl x9)) → tr_RModel_count x9 x10 → R x10 P x7 x1 x2) →
  (∀ (x1 : Nat → Nat → Nat) (x2 : Nat → Nat → Nat) (x3 : Nat → va_E) (x4 : Int32) (x5 : Int32) (x6 : Nat → va_E), x1 = γ0 → x2 = el0 → (∀ b, b ≠ q0 → x3 b = F b) → x3 q0 = cF (F q0) 30 (.int 0) → fI (x3 q0) 9 = x4 → x4.toInt ≠ 0 → 0 ≤ a2.toInt → a2.toInt ≤ 3 → 1 < a2.toInt → 0 ≤ a1.toInt → fR (x3 q0) 6 = (x1 9 6) → fI (x3 p2) 3 = x5 → x5.toInt ≤ a1.toInt → RS D I P x6 x1 x2 → rStr x1 [] x3 x6 → (fI (x6 q0) 10).toInt = (fI (x3 q0) 10).toInt → mKp (x3 q0) (x6 q0) → tr_RModel_no2 D I x1 x2 x3 q0 (3 : Int32) x6 → R (0 : Int32) P x6 x1 x2) →
  (∀ (x1 : Nat → Nat → Nat) (x2 : Nat → Nat → Nat) (x3 : Nat → va_E) (x4 : Int32) (x5 : Nat → va_E), x1 = γ0 → x2 = el0 → (∀ b, b ≠ q0 → x3 b = F b) → x3 q0 = cF (F q0) 30 (.int 0) → fI (x3 q0) 9 = x4 → x4.toInt ≠ 0 → 0 ≤ a2.toInt → 3 < a2.toInt → RS D I P x5 x1 x2 → rStr x1 [] x3 x5 → (fI (x5 q0) 10).toInt = (fI (x3 q0) 10).toInt → mKp (x3 q0) (x5 q0) → tr_RModel_no2 D I x1 x2 x3 q0 (2 : Int32) x5 → R (0 : Int32) P x5 x1 x2) →
  (∀ (x1 : Nat → Nat → Nat) (x2 : Nat → Nat → Nat) (x3 : Nat → va_E) (x4 : Int32) (x5 : Nat → va_E), x1 = γ0 → x2 = el0 → (∀ b, b ≠ q0 → x3 b = F b) → x3 q0 = cF (F q0) 30 (.int 0) → fI (x3 q0) 9 = x4 → x4.toInt = 0 → RS D I P x5 x1 x2 → rStr x1 [] x3 x5 → (fI (x5 q0) 10).toInt = (fI (x3 q0) 10).toInt → mKp (x3 q0) (x5 q0) → tr_RModel_no2 D I x1 x2 x3 q0 (1 : Int32) x5 → R (0 : Int32) P x5 x1 x2) →
  R o1 o2 o3 o4 o5
abbrev ky_587185_SpillForgeModel_look : gKey := (cX17_look, 3, "SpillForgeModel", (some FieldType.int), [], "look", fun _ _ => True)
def pg_587185_SpillForgeModel_look (D : va_G) (I : FieldType → ClassId) (γ0 el0 : Nat → Nat → Nat) (f : Nat) (fo : Nat) (B : Nat) (P587173 : List Nat) (F587174 : Nat → va_E) (q587175 : Nat) (p587176 : Int32) (p587177 : Int32) (q587178 : Nat) (q587179 : Nat) : Option Value → va_W → Nat → Nat → Prop := fun r w dc ds => ∃ (P587825 : List Nat) (F587826 : Nat → va_E) (γ el : Nat → Nat → Nat) (o587824 : Int32), r = some (.int o587824) ∧ w = va_pl P587825 F587826 ∧ rSk f [1, 2, 3, 101, 102, 103, 202] ([1, 2, 3, 4, 5, 6, 7, 8, 9, 101, 102, 103, 202] ++ npk) D I P587173 F587174 γ0 el0 P587825 F587826 γ el ∧ (18 * dc + rPh γ0 el0 f ≤ rPh γ el f ∧ ds + rPh γ0 el0 f ≤ rPh γ el f) ∧ rBd γ el f B ∧ (fI (F587826 q587175) 10).toInt = (fI (F587174 q587175) 10).toInt ∧ mKp (F587174 q587175) (F587826 q587175) ∧ tr_RModel_look D I γ0 el0 f fo P587173 F587174 q587175 p587176 p587177 q587178 q587179 o587824 P587825 F587826 γ el
set_option maxRecDepth 100000 in
set_option maxHeartbeats 20000000 in
theorem cg_587185_SpillForgeModel_look (l : Launch) (hl0 : l.stackTraces = false) (D : va_G) (I : FieldType → ClassId) (γ0 el0 : Nat → Nat → Nat) (f : Nat) (fo : Nat) (B : Nat) (P587173 : List Nat) (F587174 : Nat → va_E) (q587175 : Nat) (p587176 : Int32) (p587177 : Int32) (q587178 : Nat) (q587179 : Nat) (hT0 : RS D I P587173 F587174 γ0 el0) (hzq587175 : rKd γ0 q587175 10) (hzq587178 : rKd γ0 q587178 9) (hzq587179 : rKd γ0 q587179 9) (hvq587178 : γ0 9 8 = q587178) (hvq587179 : γ0 9 6 = q587179) (hf0 : γ0 1 q587178 = f) (hfo0 : γ0 1 q587179 = fo) (hne : fo ≠ f) (hB0 : rBd γ0 el0 f B) (hBk : B ≤ 100000) (x587180 : f = 2) (x587181 : fo = 0) (x587182 : ((fI (F587174 q587175) 9).toInt = 0 ∨ (0 < γ0 6 fo ∧ γ0 16 fo ≤ 160))) (x587183 : γ0 7 fo = 0) (x587184 : 2160 ≤ B) : CtA (gV D I) l yX17_look cX17_look 3 (some FieldType.int) 9 196 (((387 * B + 6000) - rPh γ0 el0 f) / 18) ((387 * B + 6000) - rPh γ0 el0 f) [.ref q587175, .int p587176, .int p587177] (va_pl P587173 F587174) (pg_587185_SpillForgeModel_look D I γ0 el0 f fo B P587173 F587174 q587175 p587176 p587177 q587178 q587179) gNA := by
  refine CtA_of hl0 (by decide) (Nat.le_of_ble_eq_true rfl) ?_
  have bp587176 := gB_any p587176
  have bp587177 := gB_any p587177
  obtain ⟨gm_0, hγ0⟩ : ∃ z, z = γ0 := ⟨_, rfl⟩
  obtain ⟨el_0, hel0⟩ : ∃ z, z = el0 := ⟨_, rfl⟩
  have hT : RS D I P587173 F587174 gm_0 el := by rw [hγ0, hel0]; exact hT0
  have hst : rSk f [1, 2, 3, 101, 102, 103, 202] ([1, 2, 3, 4, 5, 6, 7, 8, 9, 101, 102, 103, 202] ++ npk) D I P587173 F587174 γ0 el0 P587173 F587174 gm_0 el := by rw [hγ0, hel0]; exact rSk_rf hT0
  have hph : rPh γ0 el0 f ≤ rPh gm_0 el_0 f := by rw [hγ0, hel0]; exact Nat.le_refl _
  have hB : rBd gm_0 el_0 f B := by rw [hγ0, hel0]; exact hB0
  have htq587175 : rKd gm_0 q587175 10 := by rw [hγ0]; exact hzq587175
  have htq587178 : rKd gm_0 q587178 9 := by rw [hγ0]; exact hzq587178
  have htq587179 : rKd gm_0 q587179 9 := by rw [hγ0]; exact hzq587179
  have hf1 : gm_0 1 q587178 = f := by rw [hγ0]; exact hf0
  have hfo1 : gm_0 1 q587179 = fo := by rw [hγ0]; exact hfo0
  have x587182n : ((fI (F587174 q587175) 9).toInt = 0 ∨ (0 < gm_0 6 fo ∧ gm_0 16 fo ≤ 160)) := by rw [hγ0]; exact x587182
  have x587183n : gm_0 7 fo = 0 := by rw [hγ0]; exact x587183
  have pk587186 : rPh gm_0 el_0 f ≤ 387 * B + 6000 := rm_pk (rM_ge hT htq587178 hf1).1 (rM_bd hB)
  refine G_widen (cs' := ((rPh gm_0 el_0 f - rPh γ0 el0 f) / 18)) (sl' := (rPh gm_0 el_0 f - rPh γ0 el0 f)) (Nat.zero_le _) (Nat.zero_le _) ?_
  have lz0 : Int32.toInt 0 = 0 := by decide
  have r587187 : gm_0 6 f = γ0 6 f := by rw [hγ0]
  have r587188 : gm_0 7 f = γ0 7 f := by rw [hγ0]
  have r587189 : gm_0 16 f = γ0 16 f := by rw [hγ0]
  have r587190 : gm_0 18 f = γ0 18 f := by rw [hγ0]
  have r587191 : gm_0 19 f = γ0 19 f := by rw [hγ0]
  have hm587192 : q587175 ∈ P587173 := RS_m hT htq587175 (by decide)
  refine rk10_e (show rk_10 gm_0 (F587174 q587175) from RS_o hT htq587175) (fun q587194 q587195 p587196 p587197 p587198 p587199 p587200 p587201 p587202 p587203 p587204 p587205 p587206 p587207 p587208 p587209 p587210 he587193 hB587237 ht587211 ht587212 ht587213 ht587214 ht587215 ht587216 ht587217 ht587218 ht587219 ht587220 ht587221 ht587222 ht587223 ht587224 ht587225 ht587226 ht587227 ht587228 ht587229 ht587230 ht587231 ht587232 ht587233 ht587234 hB587238 => ?_)
  have ac0_9 : (fI (F587174 q587175) 9).toInt = p587196.toInt := by rw [he587193]; rfl
  have ac0_10 : (fI (F587174 q587175) 10).toInt = p587197.toInt := by rw [he587193]; rfl
  have ac0_32 : (fI (F587174 q587175) 32).toInt = p587208.toInt := by rw [he587193]; rfl
  have r587239 : gm_0 6 fo = γ0 6 fo := by rw [hγ0]
  have r587240 : gm_0 7 fo = γ0 7 fo := by rw [hγ0]
  have r587241 : gm_0 16 fo = γ0 16 fo := by rw [hγ0]
  refine G_aload_n 0 dr_cX17_look_0 rfl ?_
  refine G_iconst 0 dr_cX17_look_1 (by decide +kernel) ?_
  refine Gp_put 30 hm587192 he587193 dr_cX17_look_2 (gk_X17 D I) (Nat.le_of_ble_eq_true rfl) wr_7_104 rfl rfl rfl (Nat.le_of_ble_eq_true rfl) (fun F587242 e587243 n587244 => ?_)
  have he587245 : F587242 q587175 = .inr (22, [.ref (gm_0 9 0), .ref (gm_0 9 1), .ref (gm_0 9 2), .ref (gm_0 9 3), .ref (gm_0 9 4), .ref (gm_0 9 5), .ref (gm_0 9 6), .ref (gm_0 9 7), .ref (gm_0 9 8), .int p587196, .int p587197, .int p587198, .int p587199, .int p587200, .int p587201, .ref (gm_0 9 15), .ref (gm_0 9 16), .ref (gm_0 9 17), .ref (gm_0 9 18), .ref (gm_0 9 19), .ref (gm_0 9 20), .ref (gm_0 9 21), .ref (gm_0 9 22), .int p587202, .int p587203, .int p587204, .int p587205, .int p587206, .ref q587194, .ref (gm_0 9 29), .int 0, .ref (gm_0 9 31), .int p587208, .int p587209, .int p587210, .ref q587195]) := e587243
  have mk587246 : mKp (F587174 q587175) (F587242 q587175) := mKp_tr mKp_rf (by rw [he587193, he587245]; exact ⟨rfl, rfl⟩)
  have fq587247 : F587242 q587175 = cF (F587174 q587175) 30 (.int 0) := by rw [he587245, he587193]; rfl
  have hT587248 : RS D I P587173 F587242 gm_0 el := RS_set hT n587244 htq587175 (by decide) ⟨q587194, q587195, p587196, p587197, p587198, p587199, p587200, p587201, p587202, p587203, p587204, p587205, p587206, 0, p587208, p587209, p587210, he587245, ⟨(hB587237.1), (hB587237.2.1), (hB587237.2.2.1), (hB587237.2.2.2.1), (hB587237.2.2.2.2.1), (hB587237.2.2.2.2.2.1), (hB587237.2.2.2.2.2.2.1), (hB587237.2.2.2.2.2.2.2.1), (hB587237.2.2.2.2.2.2.2.2)⟩, ht587211, ht587212, ht587213, ht587214, ht587215, ht587216, ht587217, ht587218, ht587219, ht587220, ht587221, ht587222, ht587223, ht587224, ht587225, ht587226, ht587227, ht587228, ht587229, ht587230, ht587231, ht587232, ht587233, ht587234, hB587238⟩
  have hs587249 := rSk_put hst hT587248 n587244 htq587175 (by decide) (by decide)
  have ac587250 : (fI (F587242 q587175) 10).toInt = p587197.toInt := by rw [he587245]; rfl
  have r587251 : gm_0 6 (gm_0 1 q587179) = gm_0 6 fo := by rw [hfo1]
  refine G_aload_n 0 dr_cX17_look_5 rfl ?_
  have fq587252 : fI (F587242 q587175) 9 = p587196 := by rw [he587245]; rfl
  refine Gp_get 9 hm587192 he587245 dr_cX17_look_6 (gk_X17 D I) (Nat.le_of_ble_eq_true rfl) wr_7_83 rfl ?_
  have bp587196 : gB p587196 0 1 := (hB587237.1)
  refine G_if_ne 18 dr_cX17_look_9 (by decide +kernel) (fun hc587253 => ?_) (fun hc587253 => ?_)
  · have r587254 : p587196.toInt ≠ 0 := gj_neq hc587253 (show Int32.toInt 0 = 0 by decide)
    have bp587196' : gB p587196 1 1 := gB_t1 bp587196 r587254
    refine G_iload_n 2 dr_cX17_look_18 rfl ?_
    refine G_if_lt 27 dr_cX17_look_19 (by decide +kernel) (fun hc587255 => ?_) (fun hc587255 => ?_)
    · have r587256 : p587177.toInt < 0 := gj_lt hc587255 (show Int32.toInt 0 = 0 by decide)
      have bp587177' : gB p587177 (-2147483648) (-1) := ⟨by omega, by omega⟩
      refine G_aload_n 0 dr_cX17_look_27 rfl ?_
      refine G_iconst 2 dr_cX17_look_28 (by decide +kernel) ?_
      refine Gw_callV (As := [.int 2]) (gV_ok D I) (ct_587261_SpillForgeModel_no l hl0 D I gm_0 el_0 P587173 F587242 q587175 2 hT587248 htq587175) dr_cX17_look_29 ⟨wr_7_191, wr_1_14, wr_7_194, by decide, rfl, (Nat.le_of_ble_eq_true rfl), (Nat.le_of_ble_eq_true rfl)⟩ wr_7_193 wr_p_73 hm587192 he587245 rfl (rm_zc pk587186) (rm_zs pk587186) (Nat.le_of_ble_eq_true rfl) (fun r587323 w587324 dc587320 ds587321 hp587322 => ?_) (fun _ _ _ _ _ z => z.elim)
      obtain ⟨F587328, rfl, rfl, hT587329, hs587330, hdc, hds, x587325, x587326, ht587327⟩ := hp587322
      have hs587331 := rSk_str hs587249 hT587329 hs587330 (by decide) (by decide) (by decide)
      have mk587332 : mKp (F587174 q587175) (F587328 q587175) := mKp_tr mk587246 x587326
      change G _ _ _ _ _ _ _ (.int 0 :: _) _ _ _
      refine G_widen (cs' := ((rPh gm_0 el_0 f - rPh γ0 el0 f) / 18)) (sl' := (rPh gm_0 el_0 f - rPh γ0 el0 f)) (rm_d0 hdc) (rm_d0 hds) ?_
      exact G_iretA dr_cX17_look_32 rfl (show ((rPh gm_0 el_0 f - rPh γ0 el0 f) / 18) ≤ (((387 * B + 6000) - rPh γ0 el0 f) / 18) by omega) (show (rPh gm_0 el_0 f - rPh γ0 el0 f) ≤ ((387 * B + 6000) - rPh γ0 el0 f) by omega) ⟨P587173, F587328, gm_0, el_0, 0, rfl, rfl, hs587331, ⟨by omega, by omega⟩, hB, (by have qa0 : Int32.toInt 0 = 0 := (by decide); omega), mk587332, (fun R c1 c2 c3 c4 c5 c6 c7 c8 c9 c10 c11 c12 => c1 gm_0 el_0 F587242 p587196 F587328 hγ0 hel0 n587244 fq587247 fq587252 r587254 r587256 hT587329 hs587330 x587325 x587326 ht587327)⟩
    · have r587333 : 0 ≤ p587177.toInt := gj_nlt hc587255 (show Int32.toInt 0 = 0 by decide)
      have bp587177' : gB p587177 0 2147483647 := ⟨by omega, by omega⟩
      refine G_iload_n 2 dr_cX17_look_22 rfl ?_
      refine G_iconst 3 dr_cX17_look_23 (by decide +kernel) ?_
      refine G_icmp_le 33 dr_cX17_look_24 (by decide +kernel) (fun hc587334 => ?_) (fun hc587334 => ?_)
      · have r587335 : p587177.toInt ≤ 3 := gj_le hc587334 (show Int32.toInt 3 = 3 by decide)
        have bp587177'' : gB p587177 0 3 := ⟨by omega, by omega⟩
        refine G_iload_n 2 dr_cX17_look_33 rfl ?_
        refine G_iconst 1 dr_cX17_look_34 (by decide +kernel) ?_
        refine G_icmp_le 100 dr_cX17_look_35 (by decide +kernel) (fun hc587336 => ?_) (fun hc587336 => ?_)
        · have r587337 : p587177.toInt ≤ 1 := gj_le hc587336 (show Int32.toInt 1 = 1 by decide)
          have bp587177''' : gB p587177 0 1 := ⟨by omega, by omega⟩
          refine G_aload_n 0 dr_cX17_look_100 rfl ?_
          refine G_aload_n 0 dr_cX17_look_101 rfl ?_
          have fq587338 : fR (F587242 q587175) 6 = (gm_0 9 6) := by rw [he587245]; rfl
          refine Gp_get 6 hm587192 he587245 dr_cX17_look_102 (gk_X17 D I) (Nat.le_of_ble_eq_true rfl) wr_7_80 rfl ?_
          rw [show gm_0 9 6 = q587179 from (congrFun (rSk_9 hs587249) 6).trans hvq587179]
          refine G_iconst 0 dr_cX17_look_105 (by decide +kernel) ?_
          refine Gw_callV (As := [.ref q587179, .int 0]) (gV_ok D I) (ct_276998_SpillForgeModel_graph l hl0 D I gm_0 el_0 P587173 F587242 q587175 q587179 0 hT587248 htq587175 htq587179 (gB_w (gBl (show Int32.toInt 0 = 0 by decide)) (by decide) (by decide)) (by omega)) dr_cX17_look_106 ⟨wr_10_233, wr_1_14, wr_10_236, by decide, rfl, (Nat.le_of_ble_eq_true rfl), (Nat.le_of_ble_eq_true rfl)⟩ wr_10_235 wr_p_99 hm587192 he587245 rfl (rm_zc pk587186) (rm_zs pk587186) (Nat.le_of_ble_eq_true rfl) (fun r587342 w587343 dc587339 ds587340 hp587341 => ?_) (fun _ _ _ _ _ z => z.elim)
          obtain ⟨F587347, rfl, rfl, hT587348, hs587349, hdc, hds, x587344, x587345, ht587346⟩ := hp587341
          have hs587350 := rSk_str hs587249 hT587348 hs587349 (by decide) (by decide) (by decide)
          have kp587351 : F587347 q587175 = F587242 q587175 := x587345
          have mk587352 : mKp (F587174 q587175) (F587347 q587175) := mKp_tr mk587246 (mKp_eq x587345)
          have he587353 : F587347 q587175 = .inr (22, [.ref (gm_0 9 0), .ref (gm_0 9 1), .ref (gm_0 9 2), .ref (gm_0 9 3), .ref (gm_0 9 4), .ref (gm_0 9 5), .ref (gm_0 9 6), .ref (gm_0 9 7), .ref (gm_0 9 8), .int p587196, .int p587197, .int p587198, .int p587199, .int p587200, .int p587201, .ref (gm_0 9 15), .ref (gm_0 9 16), .ref (gm_0 9 17), .ref (gm_0 9 18), .ref (gm_0 9 19), .ref (gm_0 9 20), .ref (gm_0 9 21), .ref (gm_0 9 22), .int p587202, .int p587203, .int p587204, .int p587205, .int p587206, .ref q587194, .ref (gm_0 9 29), .int 0, .ref (gm_0 9 31), .int p587208, .int p587209, .int p587210, .ref q587195]) := (x587345).trans he587245
          rw [show Int32.toInt 0 = 0 from by decide] at x587344
          change G _ _ _ _ _ _ _ _ _ _ _
          refine G_widen (cs' := ((rPh gm_0 el_0 f - rPh γ0 el0 f) / 18)) (sl' := (rPh gm_0 el_0 f - rPh γ0 el0 f)) (rm_d0 hdc) (rm_d0 hds) ?_
          refine G_iload_n 1 dr_cX17_look_109 rfl ?_
          refine G_if_lt 129 dr_cX17_look_110 (by decide +kernel) (fun hc587354 => ?_) (fun hc587354 => ?_)
          · have r587355 : p587176.toInt < 0 := gj_lt hc587354 (show Int32.toInt 0 = 0 by decide)
            have bp587176' : gB p587176 (-2147483648) (-1) := ⟨by omega, by omega⟩
            have ac587356 : (fI (F587347 q587175) 10).toInt = (fI (F587242 q587175) 10).toInt := by rw [kp587351]
            refine G_aload_n 0 dr_cX17_look_129 rfl ?_
            refine G_iconst 3 dr_cX17_look_130 (by decide +kernel) ?_
            refine Gw_callV (As := [.int 3]) (gV_ok D I) (ct_587261_SpillForgeModel_no l hl0 D I gm_0 el_0 P587173 F587347 q587175 3 hT587348 htq587175) dr_cX17_look_131 ⟨wr_7_191, wr_1_14, wr_7_194, by decide, rfl, (Nat.le_of_ble_eq_true rfl), (Nat.le_of_ble_eq_true rfl)⟩ wr_7_193 wr_p_73 hm587192 he587353 rfl (rm_zc pk587186) (rm_zs pk587186) (Nat.le_of_ble_eq_true rfl) (fun r587360 w587361 dc587357 ds587358 hp587359 => ?_) (fun _ _ _ _ _ z => z.elim)
            obtain ⟨F587365, rfl, rfl, hT587366, hs587367, hdc, hds, x587362, x587363, ht587364⟩ := hp587359
            have hs587368 := rSk_str hs587350 hT587366 hs587367 (by decide) (by decide) (by decide)
            have mk587369 : mKp (F587174 q587175) (F587365 q587175) := mKp_tr mk587352 x587363
            change G _ _ _ _ _ _ _ (.int 0 :: _) _ _ _
            refine G_widen (cs' := ((rPh gm_0 el_0 f - rPh γ0 el0 f) / 18)) (sl' := (rPh gm_0 el_0 f - rPh γ0 el0 f)) (rm_d0 hdc) (rm_d0 hds) ?_
            exact G_iretA dr_cX17_look_134 rfl (show ((rPh gm_0 el_0 f - rPh γ0 el0 f) / 18) ≤ (((387 * B + 6000) - rPh γ0 el0 f) / 18) by omega) (show (rPh gm_0 el_0 f - rPh γ0 el0 f) ≤ ((387 * B + 6000) - rPh γ0 el0 f) by omega) ⟨P587173, F587365, gm_0, el_0, 0, rfl, rfl, hs587368, ⟨by omega, by omega⟩, hB, (by have qa0 : Int32.toInt 0 = 0 := (by decide); omega), mk587369, (fun R c1 c2 c3 c4 c5 c6 c7 c8 c9 c10 c11 c12 => c2 gm_0 el_0 F587242 p587196 F587347 F587365 hγ0 hel0 n587244 fq587247 fq587252 r587254 r587333 r587335 r587337 fq587338 hT587348 hs587349 x587344 x587345 ht587346 r587355 hT587366 hs587367 x587362 x587363 ht587364)⟩
          · have r587370 : 0 ≤ p587176.toInt := gj_nlt hc587354 (show Int32.toInt 0 = 0 by decide)
            have bp587176' : gB p587176 0 2147483647 := ⟨by omega, by omega⟩
            refine G_iload_n 1 dr_cX17_look_113 rfl ?_
            refine G_sipush 2000 dr_cX17_look_114 (by decide +kernel) ?_
            refine G_icmp_ge 129 dr_cX17_look_117 (by decide +kernel) (fun hc587371 => ?_) (fun hc587371 => ?_)
            · have r587372 : 2000 ≤ p587176.toInt := gj_leL hc587371 (show Int32.toInt 2000 = 2000 by decide)
              have bp587176'' : gB p587176 2000 2147483647 := ⟨by omega, by omega⟩
              have ac587373 : (fI (F587347 q587175) 10).toInt = (fI (F587242 q587175) 10).toInt := by rw [kp587351]
              refine G_aload_n 0 dr_cX17_look_129 rfl ?_
              refine G_iconst 3 dr_cX17_look_130 (by decide +kernel) ?_
              refine Gw_callV (As := [.int 3]) (gV_ok D I) (ct_587261_SpillForgeModel_no l hl0 D I gm_0 el_0 P587173 F587347 q587175 3 hT587348 htq587175) dr_cX17_look_131 ⟨wr_7_191, wr_1_14, wr_7_194, by decide, rfl, (Nat.le_of_ble_eq_true rfl), (Nat.le_of_ble_eq_true rfl)⟩ wr_7_193 wr_p_73 hm587192 he587353 rfl (rm_zc pk587186) (rm_zs pk587186) (Nat.le_of_ble_eq_true rfl) (fun r587377 w587378 dc587374 ds587375 hp587376 => ?_) (fun _ _ _ _ _ z => z.elim)
              obtain ⟨F587382, rfl, rfl, hT587383, hs587384, hdc, hds, x587379, x587380, ht587381⟩ := hp587376
              have hs587385 := rSk_str hs587350 hT587383 hs587384 (by decide) (by decide) (by decide)
              have mk587386 : mKp (F587174 q587175) (F587382 q587175) := mKp_tr mk587352 x587380
              change G _ _ _ _ _ _ _ (.int 0 :: _) _ _ _
              refine G_widen (cs' := ((rPh gm_0 el_0 f - rPh γ0 el0 f) / 18)) (sl' := (rPh gm_0 el_0 f - rPh γ0 el0 f)) (rm_d0 hdc) (rm_d0 hds) ?_
              exact G_iretA dr_cX17_look_134 rfl (show ((rPh gm_0 el_0 f - rPh γ0 el0 f) / 18) ≤ (((387 * B + 6000) - rPh γ0 el0 f) / 18) by omega) (show (rPh gm_0 el_0 f - rPh γ0 el0 f) ≤ ((387 * B + 6000) - rPh γ0 el0 f) by omega) ⟨P587173, F587382, gm_0, el_0, 0, rfl, rfl, hs587385, ⟨by omega, by omega⟩, hB, (by have qa0 : Int32.toInt 0 = 0 := (by decide); omega), mk587386, (fun R c1 c2 c3 c4 c5 c6 c7 c8 c9 c10 c11 c12 => c3 gm_0 el_0 F587242 p587196 F587347 F587382 hγ0 hel0 n587244 fq587247 fq587252 r587254 r587333 r587335 r587337 fq587338 hT587348 hs587349 x587344 x587345 ht587346 r587370 r587372 hT587383 hs587384 x587379 x587380 ht587381)⟩
            · have r587387 : p587176.toInt < 2000 := gj_nleL hc587371 (show Int32.toInt 2000 = 2000 by decide)
              have bp587176'' : gB p587176 0 1999 := ⟨by omega, by omega⟩
              refine G_aload_n 0 dr_cX17_look_120 rfl ?_
              have fq587388 : fR (F587347 q587175) 3 = (gm_0 9 3) := by rw [he587353]; rfl
              refine Gp_get 3 hm587192 he587353 dr_cX17_look_121 (gk_X17 D I) (Nat.le_of_ble_eq_true rfl) wr_7_77 rfl ?_
              refine G_iload_n 1 dr_cX17_look_124 rfl ?_
              have hm587389 : (gm_0 9 3) ∈ P587173 := RS_m hT587348 ht587216 (by decide)
              obtain ⟨f587391, he587390, bf587391⟩ := show rk_14 I (F587347 (gm_0 9 3)) from RS_o hT587348 ht587216
              refine Gp_zald 3 hm587389 he587390 dr_cX17_look_125 rfl (gB_in bp587176'' (by decide) (by decide)) (G_nam fun z587392 hz587392 => ?_)
              have bz587392 : gB z587392 0 1 := by rw [hz587392]; exact bf587391 _
              refine G_if_ne 135 dr_cX17_look_126 (by decide +kernel) (fun hc587393 => ?_) (fun hc587393 => ?_)
              · have r587394 : z587392.toInt ≠ 0 := gj_neq hc587393 (show Int32.toInt 0 = 0 by decide)
                have bz587392' : gB z587392 1 1 := gB_t1 bz587392 r587394
                refine G_aload_n 0 dr_cX17_look_135 rfl ?_
                have fq587395 : fR (F587347 q587175) 8 = (gm_0 9 8) := by rw [he587353]; rfl
                refine Gp_get 8 hm587192 he587353 dr_cX17_look_136 (gk_X17 D I) (Nat.le_of_ble_eq_true rfl) wr_7_82 rfl ?_
                rw [show gm_0 9 8 = q587178 from (congrFun (rSk_9 hs587350) 8).trans hvq587178]
                refine G_aload_n 0 dr_cX17_look_139 rfl ?_
                have fq587396 : fR (F587347 q587175) 6 = (gm_0 9 6) := by rw [he587353]; rfl
                refine Gp_get 6 hm587192 he587353 dr_cX17_look_140 (gk_X17 D I) (Nat.le_of_ble_eq_true rfl) wr_7_80 rfl ?_
                rw [show gm_0 9 6 = q587179 from (congrFun (rSk_9 hs587350) 6).trans hvq587179]
                have rg587397 := rM_ge hT587348 htq587178 hf1
                have rm587398 := rM_bd hB
                have bd587399 := rBd_c hT587348 htq587178 hf1 hB
                have rc587400 := rc_at hT587348 htq587178 hf1
                have hm587406 : q587178 ∈ P587173 := RS_m hT587348 htq587178 (by decide)
                obtain ⟨q587408, q587409, p587410, p587411, he587407, ht587427, ht587412, ht587413, ht587414, ht587415, r587416, r587417, r587418, r587419, r587420, r587421, r587422, r587423, r587424, r587425, r587426⟩ := show rk_9 gm_0 el_0 q587178 (F587347 q587178) from RS_o hT587348 htq587178
                have bp587410 : gB p587410 0 1000000 := ⟨by omega, by omega⟩
                have bp587411 : gB p587411 0 1000000 := ⟨by omega, by omega⟩
                have hf587428 : gm_0 1 q587408 = f := (show gm_0 1 q587408 = gm_0 1 q587178 from ht587413).trans hf1
                have hf587429 : gm_0 1 q587409 = f := (show gm_0 1 q587409 = gm_0 1 q587178 from ht587415).trans hf1
                have r587430 : gm_0 6 (gm_0 1 q587178) = gm_0 6 f := by rw [hf1]
                have r587431 : gm_0 16 (gm_0 1 q587178) = gm_0 16 f := by rw [hf1]
                refine Gw_callV (As := [.ref q587179]) (gV_ok D I) (cg_196056_Code_copy l hl0 D I gm_0 el_0 f fo B P587173 F587347 q587178 q587179 hT587348 htq587178 htq587179 hf1 hfo1 hne hB hBk (by omega) (by omega) (by omega)) dr_cX17_look_143 ⟨wr_10_132, wr_1_15, wr_10_135, by decide, rfl, (Nat.le_of_ble_eq_true rfl), (Nat.le_of_ble_eq_true rfl)⟩ wr_10_133 wr_10_134 hm587406 he587407 rfl (rm_gc hph pk587186) (rm_gs hph pk587186) (Nat.le_of_ble_eq_true rfl) (fun r587404 w587405 dc587401 ds587402 hp587403 => ?_) (fun _ _ _ _ _ z => z.elim)
                obtain ⟨P587437, F587438, gm_F587438, el_F587438, rfl, rfl, hk587439, ⟨hr587440, hr587441⟩, hB587442, x587432, x587433, x587434, x587435, ht587436⟩ := hp587403
                have hT587443 := hk587439.1
                have hs587444 := rSk_tr hs587350 hk587439 (by decide) (by decide) (by decide)
                have kp587445 : F587438 q587175 = F587242 q587175 := (rSk_F hk587439 htq587175 (by decide) (by decide)).trans kp587351
                have r587446 := rSk_F hk587439 htq587175 (by decide) (by decide)
                have ht587447 : rKd gm_F587438 q587175 10 := rSk_k hk587439 htq587175 (by decide) (by decide)
                have ht587448 : rKd gm_F587438 q587178 9 := rSk_k hk587439 htq587178 (by decide) (by decide)
                have hf587449 : gm_F587438 1 q587178 = f := rSk_1 hk587439 htq587178 (by decide) hf1
                have ht587450 : rKd gm_F587438 q587179 9 := rSk_kf hk587439 htq587179 (by decide) (by rw [hfo1]; exact hne)
                have hf587451 : gm_F587438 1 q587179 = fo := rSk_1 hk587439 htq587179 (by decide) hfo1
                have mk587452 : mKp (F587174 q587175) (F587438 q587175) := mKp_tr mk587352 (mKp_eq (rSk_F hk587439 htq587175 (by decide) (by decide)))
                clear r587416 r587417 r587418 r587419 r587420 r587421 r587423 r587424 r587425 r587426 bp587410 bp587411 rg587397 rm587398 bd587399 rc587400
                clear r587422
                have hph587453 : rPh γ0 el0 f ≤ rPh gm_F587438 el_F587438 f := rm_ph hph hr587441
                have pk587454 : rPh gm_F587438 el_F587438 f ≤ 387 * B + 6000 := rm_pk (rM_ge hT587443 ht587448 hf587449).1 (rM_bd hB587442)
                change G _ _ _ _ _ _ _ _ _ _ _
                refine G_widen (cs' := ((rPh gm_F587438 el_F587438 f - rPh γ0 el0 f) / 18)) (sl' := (rPh gm_F587438 el_F587438 f - rPh γ0 el0 f)) (rm_wc hph hr587440) (rm_ws hph hr587441) ?_
                have r587455 := rSk_g hs587444 hne
                have r587456 : gm_F587438 6 fo = γ0 6 fo := r587455.1
                have r587457 : gm_F587438 7 fo = γ0 7 fo := r587455.2.1
                have r587458 : gm_F587438 16 fo = γ0 16 fo := r587455.2.2.1
                have r587459 : 0 < gm_F587438 6 (gm_F587438 1 q587178) := by rw [hf587449]; omega
                have r587460 : gm_F587438 6 (gm_F587438 1 q587179) = gm_F587438 6 fo := by rw [hf587451]
                refine G_aload_n 0 dr_cX17_look_146 rfl ?_
                refine G_aload_n 0 dr_cX17_look_147 rfl ?_
                have hm587461 : q587175 ∈ P587437 := RS_m hT587443 ht587447 (by decide)
                refine rk10_e (show rk_10 gm_F587438 (F587438 q587175) from RS_o hT587443 ht587447) (fun q587463 q587464 p587465 p587466 p587467 p587468 p587469 p587470 p587471 p587472 p587473 p587474 p587475 p587476 p587477 p587478 p587479 he587462 hB587506 ht587480 ht587481 ht587482 ht587483 ht587484 ht587485 ht587486 ht587487 ht587488 ht587489 ht587490 ht587491 ht587492 ht587493 ht587494 ht587495 ht587496 ht587497 ht587498 ht587499 ht587500 ht587501 ht587502 ht587503 hB587507 => ?_)
                have fq587508 : fR (F587438 q587175) 8 = (gm_F587438 9 8) := by rw [he587462]; rfl
                refine Gp_get 8 hm587461 he587462 dr_cX17_look_148 (gk_X17 D I) (Nat.le_of_ble_eq_true rfl) wr_7_82 rfl ?_
                rw [show gm_F587438 9 8 = q587178 from (congrFun (rSk_9 hs587444) 8).trans hvq587178]
                have rg587509 := rM_ge hT587443 ht587448 hf587449
                have rm587510 := rM_bd hB587442
                have bd587511 := rBd_c hT587443 ht587448 hf587449 hB587442
                have rc587512 := rc_at hT587443 ht587448 hf587449
                refine Gw_callV (As := [.ref q587178]) (gV_ok D I) (cg_365405_SpillForgeModel_zeros l hl0 D I gm_F587438 el_F587438 f B P587437 F587438 q587175 q587178 hT587443 ht587447 ht587448 hf587449 hB587442 hBk (by omega) (by omega)) dr_cX17_look_151 ⟨wr_10_152, wr_1_14, wr_10_155, by decide, rfl, (Nat.le_of_ble_eq_true rfl), (Nat.le_of_ble_eq_true rfl)⟩ wr_10_154 wr_p_93 hm587461 he587462 rfl (rm_gc hph587453 pk587454) (rm_gs hph587453 pk587454) (Nat.le_of_ble_eq_true rfl) (fun r587516 w587517 dc587513 ds587514 hp587515 => ?_) (fun _ _ _ _ _ z => z.elim)
                obtain ⟨P587524, F587525, gm_F587525, el_F587525, rfl, rfl, hk587526, ⟨hr587527, hr587528⟩, hB587529, x587518, x587519, x587520, x587521, x587522, ht587523⟩ := hp587515
                have hT587530 := hk587526.1
                have hs587531 := rSk_tr hs587444 hk587526 (by decide) (by decide) (by decide)
                have ht587532 : rKd gm_F587525 q587175 10 := rSk_k hk587526 ht587447 (by decide) (by decide)
                have ht587533 : rKd gm_F587525 q587178 9 := rSk_k hk587526 ht587448 (by decide) (by decide)
                have hf587534 : gm_F587525 1 q587178 = f := rSk_1 hk587526 ht587448 (by decide) hf587449
                have ht587535 : rKd gm_F587525 q587179 9 := rSk_kf hk587526 ht587450 (by decide) (by rw [hf587451]; exact hne)
                have hf587536 : gm_F587525 1 q587179 = fo := rSk_1 hk587526 ht587450 (by decide) hf587451
                clear rg587509 rm587510 bd587511 rc587512
                have mk587537 : mKp (F587174 q587175) (F587525 q587175) := mKp_tr mk587452 (mKp_eq x587522)
                have hph587538 : rPh γ0 el0 f ≤ rPh gm_F587525 el_F587525 f := rm_ph hph587453 hr587528
                have pk587539 : rPh gm_F587525 el_F587525 f ≤ 387 * B + 6000 := rm_pk (rM_ge hT587530 ht587533 hf587534).1 (rM_bd hB587529)
                change G _ _ _ _ _ _ _ _ _ _ _
                refine G_widen (cs' := ((rPh gm_F587525 el_F587525 f - rPh γ0 el0 f) / 18)) (sl' := (rPh gm_F587525 el_F587525 f - rPh γ0 el0 f)) (rm_wc hph587453 hr587527) (rm_ws hph587453 hr587528) ?_
                have r587540 := rSk_g hs587531 hne
                have r587541 : gm_F587525 6 fo = γ0 6 fo := r587540.1
                have r587542 : gm_F587525 7 fo = γ0 7 fo := r587540.2.1
                have r587543 : gm_F587525 16 fo = γ0 16 fo := r587540.2.2.1
                have r587544 : 0 < gm_F587525 6 (gm_F587525 1 q587178) := by rw [hf587534]; omega
                have r587545 : gm_F587525 6 (gm_F587525 1 q587179) = gm_F587525 6 fo := by rw [hf587536]
                refine G_aload_n 0 dr_cX17_look_154 rfl ?_
                refine G_aload_n 0 dr_cX17_look_155 rfl ?_
                have hm587546 : q587175 ∈ P587524 := RS_m hT587530 ht587532 (by decide)
                refine rk10_e (show rk_10 gm_F587525 (F587525 q587175) from RS_o hT587530 ht587532) (fun q587548 q587549 p587550 p587551 p587552 p587553 p587554 p587555 p587556 p587557 p587558 p587559 p587560 p587561 p587562 p587563 p587564 he587547 hB587591 ht587565 ht587566 ht587567 ht587568 ht587569 ht587570 ht587571 ht587572 ht587573 ht587574 ht587575 ht587576 ht587577 ht587578 ht587579 ht587580 ht587581 ht587582 ht587583 ht587584 ht587585 ht587586 ht587587 ht587588 hB587592 => ?_)
                have fq587593 : fR (F587525 q587175) 8 = (gm_F587525 9 8) := by rw [he587547]; rfl
                refine Gp_get 8 hm587546 he587547 dr_cX17_look_156 (gk_X17 D I) (Nat.le_of_ble_eq_true rfl) wr_7_82 rfl ?_
                rw [show gm_F587525 9 8 = q587178 from (congrFun (rSk_9 hs587531) 8).trans hvq587178]
                refine G_iconst 0 dr_cX17_look_159 (by decide +kernel) ?_
                refine Gw_callV (As := [.ref q587178, .int 0]) (gV_ok D I) (ct_276998_SpillForgeModel_graph l hl0 D I gm_F587525 el_F587525 P587524 F587525 q587175 q587178 0 hT587530 ht587532 ht587533 (gB_w (gBl (show Int32.toInt 0 = 0 by decide)) (by decide) (by decide)) (by omega)) dr_cX17_look_160 ⟨wr_10_233, wr_1_14, wr_10_236, by decide, rfl, (Nat.le_of_ble_eq_true rfl), (Nat.le_of_ble_eq_true rfl)⟩ wr_10_235 wr_p_99 hm587546 he587547 rfl (rm_zc pk587539) (rm_zs pk587539) (Nat.le_of_ble_eq_true rfl) (fun r587597 w587598 dc587594 ds587595 hp587596 => ?_) (fun _ _ _ _ _ z => z.elim)
                obtain ⟨F587602, rfl, rfl, hT587603, hs587604, hdc, hds, x587599, x587600, ht587601⟩ := hp587596
                have hs587605 := rSk_str hs587531 hT587603 hs587604 (by decide) (by decide) (by decide)
                have kp587606 : F587602 q587175 = F587242 q587175 := (x587600).trans (x587522.trans kp587445)
                have mk587607 : mKp (F587174 q587175) (F587602 q587175) := mKp_tr mk587537 (mKp_eq x587600)
                have he587608 : F587602 q587175 = .inr (22, [.ref (gm_F587525 9 0), .ref (gm_F587525 9 1), .ref (gm_F587525 9 2), .ref (gm_F587525 9 3), .ref (gm_F587525 9 4), .ref (gm_F587525 9 5), .ref (gm_F587525 9 6), .ref (gm_F587525 9 7), .ref (gm_F587525 9 8), .int p587550, .int p587551, .int p587552, .int p587553, .int p587554, .int p587555, .ref (gm_F587525 9 15), .ref (gm_F587525 9 16), .ref (gm_F587525 9 17), .ref (gm_F587525 9 18), .ref (gm_F587525 9 19), .ref (gm_F587525 9 20), .ref (gm_F587525 9 21), .ref (gm_F587525 9 22), .int p587556, .int p587557, .int p587558, .int p587559, .int p587560, .ref q587548, .ref (gm_F587525 9 29), .int p587561, .ref (gm_F587525 9 31), .int p587562, .int p587563, .int p587564, .ref q587549]) := (x587600).trans he587547
                rw [show Int32.toInt 0 = 0 from by decide] at x587599
                change G _ _ _ _ _ _ _ _ _ _ _
                refine G_widen (cs' := ((rPh gm_F587525 el_F587525 f - rPh γ0 el0 f) / 18)) (sl' := (rPh gm_F587525 el_F587525 f - rPh γ0 el0 f)) (rm_d0 hdc) (rm_d0 hds) ?_
                refine G_aload_n 0 dr_cX17_look_163 rfl ?_
                refine G_aload_n 0 dr_cX17_look_164 rfl ?_
                have fq587609 : fR (F587602 q587175) 8 = (gm_F587525 9 8) := by rw [he587608]; rfl
                refine Gp_get 8 hm587546 he587608 dr_cX17_look_165 (gk_X17 D I) (Nat.le_of_ble_eq_true rfl) wr_7_82 rfl ?_
                rw [show gm_F587525 9 8 = q587178 from (congrFun (rSk_9 hs587605) 8).trans hvq587178]
                refine Gw_callV (As := [.ref q587178]) (gV_ok D I) (ct_408010_SpillForgeModel_weigh l hl0 D I gm_F587525 el_F587525 P587524 F587602 q587175 q587178 hT587603 ht587532 ht587533 (by omega)) dr_cX17_look_168 ⟨wr_11_33, wr_1_14, wr_11_36, by decide, rfl, (Nat.le_of_ble_eq_true rfl), (Nat.le_of_ble_eq_true rfl)⟩ wr_11_35 wr_p_104 hm587546 he587608 rfl (rm_zc pk587539) (rm_zs pk587539) (Nat.le_of_ble_eq_true rfl) (fun r587613 w587614 dc587610 ds587611 hp587612 => ?_) (fun _ _ _ _ _ z => z.elim)
                obtain ⟨F587618, rfl, rfl, hT587619, hs587620, hdc, hds, x587615, x587616, ht587617⟩ := hp587612
                have hs587621 := rSk_str hs587605 hT587619 hs587620 (by decide) (by decide) (by decide)
                have kp587622 : F587618 q587175 = F587242 q587175 := (x587615).trans kp587606
                have mk587623 : mKp (F587174 q587175) (F587618 q587175) := mKp_tr mk587607 (mKp_eq x587615)
                have he587624 : F587618 q587175 = .inr (22, [.ref (gm_F587525 9 0), .ref (gm_F587525 9 1), .ref (gm_F587525 9 2), .ref (gm_F587525 9 3), .ref (gm_F587525 9 4), .ref (gm_F587525 9 5), .ref (gm_F587525 9 6), .ref (gm_F587525 9 7), .ref (gm_F587525 9 8), .int p587550, .int p587551, .int p587552, .int p587553, .int p587554, .int p587555, .ref (gm_F587525 9 15), .ref (gm_F587525 9 16), .ref (gm_F587525 9 17), .ref (gm_F587525 9 18), .ref (gm_F587525 9 19), .ref (gm_F587525 9 20), .ref (gm_F587525 9 21), .ref (gm_F587525 9 22), .int p587556, .int p587557, .int p587558, .int p587559, .int p587560, .ref q587548, .ref (gm_F587525 9 29), .int p587561, .ref (gm_F587525 9 31), .int p587562, .int p587563, .int p587564, .ref q587549]) := (x587615).trans he587608
                change G _ _ _ _ _ _ _ _ _ _ _
                refine G_widen (cs' := ((rPh gm_F587525 el_F587525 f - rPh γ0 el0 f) / 18)) (sl' := (rPh gm_F587525 el_F587525 f - rPh γ0 el0 f)) (rm_d0 hdc) (rm_d0 hds) ?_
                refine G_iload_n 2 dr_cX17_look_171 rfl ?_
                refine G_if_ne 184 dr_cX17_look_172 (by decide +kernel) (fun hc587625 => ?_) (fun hc587625 => ?_)
                · have r587626 : p587177.toInt ≠ 0 := gj_neq hc587625 (show Int32.toInt 0 = 0 by decide)
                  have bp587177'''' : gB p587177 1 1 := gB_t1 bp587177''' r587626
                  refine G_aload_n 0 dr_cX17_look_184 rfl ?_
                  have fq587627 : fR (F587618 q587175) 1 = (gm_F587525 9 1) := by rw [he587624]; rfl
                  refine Gp_get 1 hm587546 he587624 dr_cX17_look_185 (gk_X17 D I) (Nat.le_of_ble_eq_true rfl) wr_7_75 rfl ?_
                  refine G_iload_n 1 dr_cX17_look_188 rfl ?_
                  have hm587628 : (gm_F587525 9 1) ∈ P587524 := RS_m hT587619 ht587568 (by decide)
                  obtain ⟨f587630, he587629, hg587631⟩ := show rk_13 I gm_F587525 (F587618 (gm_F587525 9 1)) from RS_o hT587619 ht587568
                  obtain ⟨q587632, hx587634⟩ : ∃ x, x = gm_F587525 11 p587176.toInt.toNat := ⟨_, rfl⟩
                  have ht587633 : rKd gm_F587525 q587632 36 := by rw [hx587634]; exact (hg587631 _ (show p587176.toInt.toNat < 2000 by omega)).2.1
                  refine Gp_aald 5 hm587628 he587629 dr_cX17_look_189 rfl rfl (gB_in bp587176'' (by decide) (by decide)) ?_
                  rw [show f587630 p587176.toNatClampNeg = some q587632 from (hg587631 _ (show p587176.toInt.toNat < 2000 by omega)).1.trans (by rw [hx587634])]
                  change G _ _ _ _ _ _ _ (.ref q587632 :: _) _ _ _
                  have hm587635 : q587632 ∈ P587524 := RS_m hT587619 ht587633 (by decide)
                  obtain ⟨f587637, he587636, wf587637⟩ := show rk_36 I (F587618 q587632) from RS_o hT587619 ht587633
                  refine Gw_callS (As := [.ref q587632]) (gV_ok D I) (cp_1899_SpillForgeModel_count l hl0 D I P587524 F587618 q587632 f587637 hm587635 he587636) dr_cX17_look_190 ⟨wr_11_16, wr_1_14, wr_11_18, by decide, rfl, (Nat.le_of_ble_eq_true rfl), (Nat.le_of_ble_eq_true rfl)⟩ wr_11_17 (rm_zc pk587539) (rm_zs pk587539) (Nat.le_of_ble_eq_true rfl) (fun r587641 w587642 dc587638 ds587639 hp587640 => ?_) (fun _ _ _ _ _ z => z.elim)
                  obtain ⟨o587643, rfl, rfl, hdc, hds, ht587644⟩ := hp587640
                  have bo587643 := gB_any o587643
                  change G _ _ _ _ _ _ _ (.int o587643 :: _) _ _ _
                  refine G_widen (cs' := ((rPh gm_F587525 el_F587525 f - rPh γ0 el0 f) / 18)) (sl' := (rPh gm_F587525 el_F587525 f - rPh γ0 el0 f)) (rm_d0 hdc) (rm_d0 hds) ?_
                  have ac587645 : (fI (F587618 q587175) 10).toInt = (fI (F587242 q587175) 10).toInt := by rw [kp587622]
                  exact G_iretA dr_cX17_look_193 rfl (show ((rPh gm_F587525 el_F587525 f - rPh γ0 el0 f) / 18) ≤ (((387 * B + 6000) - rPh γ0 el0 f) / 18) by omega) (show (rPh gm_F587525 el_F587525 f - rPh γ0 el0 f) ≤ ((387 * B + 6000) - rPh γ0 el0 f) by omega) ⟨P587524, F587618, gm_F587525, el_F587525, o587643, rfl, rfl, hs587621, ⟨by omega, by omega⟩, hB587529, (by omega), mk587623, (fun R c1 c2 c3 c4 c5 c6 c7 c8 c9 c10 c11 c12 => c4 gm_0 el_0 F587242 p587196 F587347 f587391 z587392 P587437 F587438 gm_F587438 el_F587438 P587524 F587525 gm_F587525 el_F587525 F587602 F587618 q587632 f587637 o587643 hγ0 hel0 n587244 fq587247 fq587252 r587254 r587333 r587335 r587337 fq587338 hT587348 hs587349 x587344 x587345 ht587346 r587370 r587387 fq587388 he587390 hz587392 bz587392 r587394 fq587395 fq587396 hk587439 x587432 x587433 x587434 x587435 ht587436 fq587508 hk587526 x587518 x587519 x587520 x587521 x587522 ht587523 fq587593 hT587603 hs587604 x587599 x587600 ht587601 fq587609 hT587619 hs587620 x587615 x587616 ht587617 r587626 fq587627 hx587634 he587636 ht587644)⟩
                · have r587646 : p587177.toInt = 0 := gj_eq hc587625 (show Int32.toInt 0 = 0 by decide)
                  have bp587177'''' : gB p587177 0 0 := gB_t0 r587646
                  refine G_aload_n 0 dr_cX17_look_175 rfl ?_
                  have fq587647 : fR (F587618 q587175) 5 = (gm_F587525 9 5) := by rw [he587624]; rfl
                  refine Gp_get 5 hm587546 he587624 dr_cX17_look_176 (gk_X17 D I) (Nat.le_of_ble_eq_true rfl) wr_7_79 rfl ?_
                  refine G_iload_n 1 dr_cX17_look_179 rfl ?_
                  have hm587648 : (gm_F587525 9 5) ∈ P587524 := RS_m hT587619 ht587572 (by decide)
                  obtain ⟨f587650, he587649⟩ := show rk_17 I (F587618 (gm_F587525 9 5)) from RS_o hT587619 ht587572
                  refine Gp_iald 0 hm587648 he587649 dr_cX17_look_180 rfl (gB_in bp587176'' (by decide) (by decide)) (G_nam fun z587651 hz587651 => ?_)
                  have bz587651 : gB z587651 (-2147483648) 2147483647 := gB_any z587651
                  refine G_goto 193 dr_cX17_look_181 (by decide +kernel) ?_
                  have ac587652 : (fI (F587618 q587175) 10).toInt = (fI (F587242 q587175) 10).toInt := by rw [kp587622]
                  exact G_iretA dr_cX17_look_193 rfl (show ((rPh gm_F587525 el_F587525 f - rPh γ0 el0 f) / 18) ≤ (((387 * B + 6000) - rPh γ0 el0 f) / 18) by omega) (show (rPh gm_F587525 el_F587525 f - rPh γ0 el0 f) ≤ ((387 * B + 6000) - rPh γ0 el0 f) by omega) ⟨P587524, F587618, gm_F587525, el_F587525, z587651, rfl, rfl, hs587621, ⟨by omega, by omega⟩, hB587529, (by omega), mk587623, (fun R c1 c2 c3 c4 c5 c6 c7 c8 c9 c10 c11 c12 => c5 gm_0 el_0 F587242 p587196 F587347 f587391 z587392 P587437 F587438 gm_F587438 el_F587438 P587524 F587525 gm_F587525 el_F587525 F587602 F587618 f587650 z587651 hγ0 hel0 n587244 fq587247 fq587252 r587254 r587333 r587335 r587337 fq587338 hT587348 hs587349 x587344 x587345 ht587346 r587370 r587387 fq587388 he587390 hz587392 bz587392 r587394 fq587395 fq587396 hk587439 x587432 x587433 x587434 x587435 ht587436 fq587508 hk587526 x587518 x587519 x587520 x587521 x587522 ht587523 fq587593 hT587603 hs587604 x587599 x587600 ht587601 fq587609 hT587619 hs587620 x587615 x587616 ht587617 r587646 fq587647 he587649 hz587651)⟩
              · have r587653 : z587392.toInt = 0 := gj_eq hc587393 (show Int32.toInt 0 = 0 by decide)
                have bz587392' : gB z587392 0 0 := gB_t0 r587653
                have ac587654 : (fI (F587347 q587175) 10).toInt = (fI (F587242 q587175) 10).toInt := by rw [kp587351]
                refine G_aload_n 0 dr_cX17_look_129 rfl ?_
                refine G_iconst 3 dr_cX17_look_130 (by decide +kernel) ?_
                refine Gw_callV (As := [.int 3]) (gV_ok D I) (ct_587261_SpillForgeModel_no l hl0 D I gm_F587525 el_F587525 P587173 F587347 q587175 3 hT587348 htq587175) dr_cX17_look_131 ⟨wr_7_191, wr_1_14, wr_7_194, by decide, rfl, (Nat.le_of_ble_eq_true rfl), (Nat.le_of_ble_eq_true rfl)⟩ wr_7_193 wr_p_73 hm587192 he587353 rfl (rm_zc pk587186) (rm_zs pk587186) (Nat.le_of_ble_eq_true rfl) (fun r587658 w587659 dc587655 ds587656 hp587657 => ?_) (fun _ _ _ _ _ z => z.elim)
                obtain ⟨F587663, rfl, rfl, hT587664, hs587665, hdc, hds, x587660, x587661, ht587662⟩ := hp587657
                have hs587666 := rSk_str hs587350 hT587664 hs587665 (by decide) (by decide) (by decide)
                have mk587667 : mKp (F587174 q587175) (F587663 q587175) := mKp_tr mk587352 x587661
                change G _ _ _ _ _ _ _ (.int 0 :: _) _ _ _
                refine G_widen (cs' := ((rPh gm_F587525 el_F587525 f - rPh γ0 el0 f) / 18)) (sl' := (rPh gm_F587525 el_F587525 f - rPh γ0 el0 f)) (rm_d0 hdc) (rm_d0 hds) ?_
                exact G_iretA dr_cX17_look_134 rfl (show ((rPh gm_F587525 el_F587525 f - rPh γ0 el0 f) / 18) ≤ (((387 * B + 6000) - rPh γ0 el0 f) / 18) by omega) (show (rPh gm_F587525 el_F587525 f - rPh γ0 el0 f) ≤ ((387 * B + 6000) - rPh γ0 el0 f) by omega) ⟨P587173, F587663, gm_F587525, el_F587525, 0, rfl, rfl, hs587666, ⟨by omega, by omega⟩, hB, (by have qa0 : Int32.toInt 0 = 0 := (by decide); omega), mk587667, (fun R c1 c2 c3 c4 c5 c6 c7 c8 c9 c10 c11 c12 => c6 gm_0 el_0 F587242 p587196 F587347 f587391 z587392 F587663 hγ0 hel0 n587244 fq587247 fq587252 r587254 r587333 r587335 r587337 fq587338 hT587348 hs587349 x587344 x587345 ht587346 r587370 r587387 fq587388 he587390 hz587392 bz587392 r587653 hT587664 hs587665 x587660 x587661 ht587662)⟩
        · have r587668 : 1 < p587177.toInt := gj_nle hc587336 (show Int32.toInt 1 = 1 by decide)
          have bp587177''' : gB p587177 2 3 := ⟨by omega, by omega⟩
          refine G_iload_n 1 dr_cX17_look_38 rfl ?_
          refine G_if_lt 53 dr_cX17_look_39 (by decide +kernel) (fun hc587669 => ?_) (fun hc587669 => ?_)
          · have r587670 : p587176.toInt < 0 := gj_lt hc587669 (show Int32.toInt 0 = 0 by decide)
            have bp587176' : gB p587176 (-2147483648) (-1) := ⟨by omega, by omega⟩
            refine G_aload_n 0 dr_cX17_look_53 rfl ?_
            refine G_iconst 3 dr_cX17_look_54 (by decide +kernel) ?_
            refine Gw_callV (As := [.int 3]) (gV_ok D I) (ct_587261_SpillForgeModel_no l hl0 D I gm_0 el_0 P587173 F587242 q587175 3 hT587248 htq587175) dr_cX17_look_55 ⟨wr_7_191, wr_1_14, wr_7_194, by decide, rfl, (Nat.le_of_ble_eq_true rfl), (Nat.le_of_ble_eq_true rfl)⟩ wr_7_193 wr_p_73 hm587192 he587245 rfl (rm_zc pk587186) (rm_zs pk587186) (Nat.le_of_ble_eq_true rfl) (fun r587674 w587675 dc587671 ds587672 hp587673 => ?_) (fun _ _ _ _ _ z => z.elim)
            obtain ⟨F587679, rfl, rfl, hT587680, hs587681, hdc, hds, x587676, x587677, ht587678⟩ := hp587673
            have hs587682 := rSk_str hs587249 hT587680 hs587681 (by decide) (by decide) (by decide)
            have mk587683 : mKp (F587174 q587175) (F587679 q587175) := mKp_tr mk587246 x587677
            change G _ _ _ _ _ _ _ (.int 0 :: _) _ _ _
            refine G_widen (cs' := ((rPh gm_0 el_0 f - rPh γ0 el0 f) / 18)) (sl' := (rPh gm_0 el_0 f - rPh γ0 el0 f)) (rm_d0 hdc) (rm_d0 hds) ?_
            exact G_iretA dr_cX17_look_58 rfl (show ((rPh gm_0 el_0 f - rPh γ0 el0 f) / 18) ≤ (((387 * B + 6000) - rPh γ0 el0 f) / 18) by omega) (show (rPh gm_0 el_0 f - rPh γ0 el0 f) ≤ ((387 * B + 6000) - rPh γ0 el0 f) by omega) ⟨P587173, F587679, gm_0, el_0, 0, rfl, rfl, hs587682, ⟨by omega, by omega⟩, hB, (by have qa0 : Int32.toInt 0 = 0 := (by decide); omega), mk587683, (fun R c1 c2 c3 c4 c5 c6 c7 c8 c9 c10 c11 c12 => c7 gm_0 el_0 F587242 p587196 F587679 hγ0 hel0 n587244 fq587247 fq587252 r587254 r587333 r587335 r587668 r587670 hT587680 hs587681 x587676 x587677 ht587678)⟩
          · have r587684 : 0 ≤ p587176.toInt := gj_nlt hc587669 (show Int32.toInt 0 = 0 by decide)
            have bp587176' : gB p587176 0 2147483647 := ⟨by omega, by omega⟩
            refine G_iload_n 1 dr_cX17_look_42 rfl ?_
            refine G_aload_n 0 dr_cX17_look_43 rfl ?_
            have fq587685 : fR (F587242 q587175) 6 = (gm_0 9 6) := by rw [he587245]; rfl
            refine Gp_get 6 hm587192 he587245 dr_cX17_look_44 (gk_X17 D I) (Nat.le_of_ble_eq_true rfl) wr_7_80 rfl ?_
            rw [show gm_0 9 6 = q587179 from (congrFun (rSk_9 hs587249) 6).trans hvq587179]
            have hm587686 : q587179 ∈ P587173 := RS_m hT587248 htq587179 (by decide)
            obtain ⟨q587688, q587689, p587690, p587691, he587687, ht587707, ht587692, ht587693, ht587694, ht587695, r587696, r587697, r587698, r587699, r587700, r587701, r587702, r587703, r587704, r587705, r587706⟩ := show rk_9 gm_0 el_0 q587179 (F587242 q587179) from RS_o hT587248 htq587179
            have bp587690 : gB p587690 0 1000000 := ⟨by omega, by omega⟩
            have bp587691 : gB p587691 0 1000000 := ⟨by omega, by omega⟩
            have hf587708 : gm_0 1 q587688 = fo := (show gm_0 1 q587688 = gm_0 1 q587179 from ht587693).trans hfo1
            have hf587709 : gm_0 1 q587689 = fo := (show gm_0 1 q587689 = gm_0 1 q587179 from ht587695).trans hfo1
            have r587710 : gm_0 6 (gm_0 1 q587179) = gm_0 6 fo := by rw [hfo1]
            have r587711 : gm_0 16 (gm_0 1 q587179) = gm_0 16 fo := by rw [hfo1]
            have r587712 : p587691.toInt = gm_0 6 fo ∧ p587691.toInt ≤ 40 := by omega
            clear r587702
            have fq587713 : fI (F587242 q587179) 3 = p587691 := by rw [he587687]; rfl
            refine Gw_callV (As := []) (gV_ok D I) (cp_12780_Code_size l hl0 D I P587173 F587242 q587179 q587688 q587689 p587690 p587691 hm587686 he587687) dr_cX17_look_47 ⟨wr_10_160, wr_1_15, wr_9_131, by decide, rfl, (Nat.le_of_ble_eq_true rfl), (Nat.le_of_ble_eq_true rfl)⟩ wr_9_129 wr_9_130 hm587686 he587687 rfl (rm_zc pk587186) (rm_zs pk587186) (Nat.le_of_ble_eq_true rfl) (fun r587717 w587718 dc587714 ds587715 hp587716 => ?_) (fun _ _ _ _ _ z => z.elim)
            obtain ⟨rfl, rfl, hdc, hds⟩ := hp587716
            change G _ _ _ _ _ _ _ (.int p587691 :: _) _ _ _
            refine G_widen (cs' := ((rPh gm_0 el_0 f - rPh γ0 el0 f) / 18)) (sl' := (rPh gm_0 el_0 f - rPh γ0 el0 f)) (rm_d0 hdc) (rm_d0 hds) ?_
            refine G_icmp_lt 59 dr_cX17_look_50 (by decide +kernel) (fun hc587719 => ?_) (fun hc587719 => ?_)
            · have r587720 : p587176.toInt < p587691.toInt := gC_lt hc587719
              have bp587176'' : gB p587176 0 999999 := ⟨by omega, by omega⟩
              have bp587691' : gB p587691 1 1000000 := ⟨by omega, by omega⟩
              refine G_aload_n 0 dr_cX17_look_59 rfl ?_
              refine G_aload_n 0 dr_cX17_look_60 rfl ?_
              refine Gp_get 6 hm587192 he587245 dr_cX17_look_61 (gk_X17 D I) (Nat.le_of_ble_eq_true rfl) wr_7_80 rfl ?_
              rw [show gm_0 9 6 = q587179 from (congrFun (rSk_9 hs587249) 6).trans hvq587179]
              refine G_iconst 0 dr_cX17_look_64 (by decide +kernel) ?_
              refine Gw_callV (As := [.ref q587179, .int 0]) (gV_ok D I) (ct_225394_SpillForgeModel_findLive l hl0 D I gm_0 el_0 P587173 F587242 q587175 q587179 0 hT587248 htq587175 htq587179 (gB_w (gBl (show Int32.toInt 0 = 0 by decide)) (by decide) (by decide)) (by omega)) dr_cX17_look_65 ⟨wr_10_156, wr_1_14, wr_10_159, by decide, rfl, (Nat.le_of_ble_eq_true rfl), (Nat.le_of_ble_eq_true rfl)⟩ wr_10_158 wr_p_94 hm587192 he587245 rfl (rm_zc pk587186) (rm_zs pk587186) (Nat.le_of_ble_eq_true rfl) (fun r587724 w587725 dc587721 ds587722 hp587723 => ?_) (fun _ _ _ _ _ z => z.elim)
              obtain ⟨F587728, rfl, rfl, hT587729, hs587730, hdc, hds, x587726, ht587727⟩ := hp587723
              have he587731 : F587728 q587179 = .inr (18, [.ref q587688, .ref q587689, .int p587690, .int p587691]) := (hs587730 q587179 (rT0 htq587179 (by decide)) (rT1 htq587179 (by decide)) (rT2 htq587179 (by decide))).trans he587687
              have hs587732 := rSk_str hs587249 hT587729 hs587730 (by decide) (by decide) (by decide)
              have kp587733 : F587728 q587175 = F587242 q587175 := x587726
              have mk587734 : mKp (F587174 q587175) (F587728 q587175) := mKp_tr mk587246 (mKp_eq x587726)
              have he587735 : F587728 q587175 = .inr (22, [.ref (gm_0 9 0), .ref (gm_0 9 1), .ref (gm_0 9 2), .ref (gm_0 9 3), .ref (gm_0 9 4), .ref (gm_0 9 5), .ref (gm_0 9 6), .ref (gm_0 9 7), .ref (gm_0 9 8), .int p587196, .int p587197, .int p587198, .int p587199, .int p587200, .int p587201, .ref (gm_0 9 15), .ref (gm_0 9 16), .ref (gm_0 9 17), .ref (gm_0 9 18), .ref (gm_0 9 19), .ref (gm_0 9 20), .ref (gm_0 9 21), .ref (gm_0 9 22), .int p587202, .int p587203, .int p587204, .int p587205, .int p587206, .ref q587194, .ref (gm_0 9 29), .int 0, .ref (gm_0 9 31), .int p587208, .int p587209, .int p587210, .ref q587195]) := (x587726).trans he587245
              change G _ _ _ _ _ _ _ _ _ _ _
              refine G_widen (cs' := ((rPh gm_0 el_0 f - rPh γ0 el0 f) / 18)) (sl' := (rPh gm_0 el_0 f - rPh γ0 el0 f)) (rm_d0 hdc) (rm_d0 hds) ?_
              refine G_aload_n 0 dr_cX17_look_68 rfl ?_
              refine G_aload_n 0 dr_cX17_look_69 rfl ?_
              have fq587736 : fR (F587728 q587175) 6 = (gm_0 9 6) := by rw [he587735]; rfl
              refine Gp_get 6 hm587192 he587735 dr_cX17_look_70 (gk_X17 D I) (Nat.le_of_ble_eq_true rfl) wr_7_80 rfl ?_
              rw [show gm_0 9 6 = q587179 from (congrFun (rSk_9 hs587732) 6).trans hvq587179]
              refine Gw_callV (As := [.ref q587179]) (gV_ok D I) (ct_408063_SpillForgeModel_findDepth l hl0 D I gm_0 el_0 P587173 F587728 q587175 q587179 hT587729 htq587175 htq587179 (by omega)) dr_cX17_look_73 ⟨wr_11_37, wr_1_14, wr_11_40, by decide, rfl, (Nat.le_of_ble_eq_true rfl), (Nat.le_of_ble_eq_true rfl)⟩ wr_11_39 wr_p_105 hm587192 he587735 rfl (rm_zc pk587186) (rm_zs pk587186) (Nat.le_of_ble_eq_true rfl) (fun r587740 w587741 dc587737 ds587738 hp587739 => ?_) (fun _ _ _ _ _ z => z.elim)
              obtain ⟨F587745, rfl, rfl, hT587746, hs587747, hdc, hds, x587742, x587743, ht587744⟩ := hp587739
              have he587748 : F587745 q587179 = .inr (18, [.ref q587688, .ref q587689, .int p587690, .int p587691]) := (hs587747 q587179 (rT0 htq587179 (by decide)) (rT1 htq587179 (by decide)) (rT2 htq587179 (by decide))).trans he587731
              have hs587749 := rSk_str hs587732 hT587746 hs587747 (by decide) (by decide) (by decide)
              have kp587750 : F587745 q587175 = F587242 q587175 := (x587742).trans kp587733
              have mk587751 : mKp (F587174 q587175) (F587745 q587175) := mKp_tr mk587734 (mKp_eq x587742)
              have he587752 : F587745 q587175 = .inr (22, [.ref (gm_0 9 0), .ref (gm_0 9 1), .ref (gm_0 9 2), .ref (gm_0 9 3), .ref (gm_0 9 4), .ref (gm_0 9 5), .ref (gm_0 9 6), .ref (gm_0 9 7), .ref (gm_0 9 8), .int p587196, .int p587197, .int p587198, .int p587199, .int p587200, .int p587201, .ref (gm_0 9 15), .ref (gm_0 9 16), .ref (gm_0 9 17), .ref (gm_0 9 18), .ref (gm_0 9 19), .ref (gm_0 9 20), .ref (gm_0 9 21), .ref (gm_0 9 22), .int p587202, .int p587203, .int p587204, .int p587205, .int p587206, .ref q587194, .ref (gm_0 9 29), .int 0, .ref (gm_0 9 31), .int p587208, .int p587209, .int p587210, .ref q587195]) := (x587742).trans he587735
              change G _ _ _ _ _ _ _ _ _ _ _
              refine G_widen (cs' := ((rPh gm_0 el_0 f - rPh γ0 el0 f) / 18)) (sl' := (rPh gm_0 el_0 f - rPh γ0 el0 f)) (rm_d0 hdc) (rm_d0 hds) ?_
              refine G_iload_n 2 dr_cX17_look_76 rfl ?_
              refine G_iconst 2 dr_cX17_look_77 (by decide +kernel) ?_
              refine G_icmp_ne 93 dr_cX17_look_78 (by decide +kernel) (fun hc587753 => ?_) (fun hc587753 => ?_)
              · have r587754 : p587177.toInt ≠ 2 := gj_neq hc587753 (show Int32.toInt 2 = 2 by decide)
                have bp587177'''' : gB p587177 3 3 := ⟨by omega, by omega⟩
                refine G_aload_n 0 dr_cX17_look_93 rfl ?_
                have fq587755 : fR (F587745 q587175) 4 = (gm_0 9 4) := by rw [he587752]; rfl
                refine Gp_get 4 hm587192 he587752 dr_cX17_look_94 (gk_X17 D I) (Nat.le_of_ble_eq_true rfl) wr_7_78 rfl ?_
                refine G_iload_n 1 dr_cX17_look_97 rfl ?_
                have hm587756 : (gm_0 9 4) ∈ P587173 := RS_m hT587746 ht587217 (by decide)
                obtain ⟨f587758, he587757⟩ := show rk_16 I (F587745 (gm_0 9 4)) from RS_o hT587746 ht587217
                refine Gp_iald 0 hm587756 he587757 dr_cX17_look_98 rfl (gB_inr (by omega) (by omega)) (G_nam fun z587759 hz587759 => ?_)
                have bz587759 : gB z587759 (-2147483648) 2147483647 := gB_any z587759
                have ac587760 : (fI (F587745 q587175) 10).toInt = (fI (F587242 q587175) 10).toInt := by rw [kp587750]
                exact G_iretA dr_cX17_look_99 rfl (show ((rPh gm_0 el_0 f - rPh γ0 el0 f) / 18) ≤ (((387 * B + 6000) - rPh γ0 el0 f) / 18) by omega) (show (rPh gm_0 el_0 f - rPh γ0 el0 f) ≤ ((387 * B + 6000) - rPh γ0 el0 f) by omega) ⟨P587173, F587745, gm_0, el_0, z587759, rfl, rfl, hs587749, ⟨by omega, by omega⟩, hB, (by omega), mk587751, (fun R c1 c2 c3 c4 c5 c6 c7 c8 c9 c10 c11 c12 => c8 gm_0 el_0 F587242 p587196 p587691 F587728 F587745 f587758 z587759 hγ0 hel0 n587244 fq587247 fq587252 r587254 r587333 r587335 r587668 r587684 fq587685 fq587713 r587720 hT587729 hs587730 x587726 ht587727 fq587736 hT587746 hs587747 x587742 x587743 ht587744 r587754 fq587755 he587757 hz587759)⟩
              · have r587761 : p587177.toInt = 2 := gj_eq hc587753 (show Int32.toInt 2 = 2 by decide)
                have bp587177'''' : gB p587177 2 2 := ⟨by omega, by omega⟩
                refine G_aload_n 0 dr_cX17_look_81 rfl ?_
                have fq587762 : fR (F587745 q587175) 0 = (gm_0 9 0) := by rw [he587752]; rfl
                refine Gp_get 0 hm587192 he587752 dr_cX17_look_82 (gk_X17 D I) (Nat.le_of_ble_eq_true rfl) wr_7_74 rfl ?_
                refine G_iload_n 1 dr_cX17_look_85 rfl ?_
                have hm587763 : (gm_0 9 0) ∈ P587173 := RS_m hT587746 ht587213 (by decide)
                obtain ⟨f587765, he587764, hg587766⟩ := show rk_12 I gm_0 (F587745 (gm_0 9 0)) from RS_o hT587746 ht587213
                obtain ⟨q587767, hx587769⟩ : ∃ x, x = gm_0 10 p587176.toInt.toNat := ⟨_, rfl⟩
                have ht587768 : rKd gm_0 q587767 11 := by rw [hx587769]; exact (hg587766 _ (show p587176.toInt.toNat < 40 by omega)).2.1
                refine Gp_aald 5 hm587763 he587764 dr_cX17_look_86 rfl rfl (gB_inr (by omega) (by omega)) ?_
                rw [show f587765 p587176.toNatClampNeg = some q587767 from (hg587766 _ (show p587176.toInt.toNat < 40 by omega)).1.trans (by rw [hx587769])]
                change G _ _ _ _ _ _ _ (.ref q587767 :: _) _ _ _
                have hm587770 : q587767 ∈ P587173 := RS_m hT587746 ht587768 (by decide)
                obtain ⟨f587772, he587771, wf587772⟩ := show rk_11 I (F587745 q587767) from RS_o hT587746 ht587768
                refine Gw_callS (As := [.ref q587767]) (gV_ok D I) (cp_1899_SpillForgeModel_count l hl0 D I P587173 F587745 q587767 f587772 hm587770 he587771) dr_cX17_look_87 ⟨wr_11_16, wr_1_14, wr_11_18, by decide, rfl, (Nat.le_of_ble_eq_true rfl), (Nat.le_of_ble_eq_true rfl)⟩ wr_11_17 (rm_zc pk587186) (rm_zs pk587186) (Nat.le_of_ble_eq_true rfl) (fun r587776 w587777 dc587773 ds587774 hp587775 => ?_) (fun _ _ _ _ _ z => z.elim)
                obtain ⟨o587778, rfl, rfl, hdc, hds, ht587779⟩ := hp587775
                have bo587778 := gB_any o587778
                change G _ _ _ _ _ _ _ (.int o587778 :: _) _ _ _
                refine G_widen (cs' := ((rPh gm_0 el_0 f - rPh γ0 el0 f) / 18)) (sl' := (rPh gm_0 el_0 f - rPh γ0 el0 f)) (rm_d0 hdc) (rm_d0 hds) ?_
                refine G_goto 99 dr_cX17_look_90 (by decide +kernel) ?_
                have ac587780 : (fI (F587745 q587175) 10).toInt = (fI (F587242 q587175) 10).toInt := by rw [kp587750]
                exact G_iretA dr_cX17_look_99 rfl (show ((rPh gm_0 el_0 f - rPh γ0 el0 f) / 18) ≤ (((387 * B + 6000) - rPh γ0 el0 f) / 18) by omega) (show (rPh gm_0 el_0 f - rPh γ0 el0 f) ≤ ((387 * B + 6000) - rPh γ0 el0 f) by omega) ⟨P587173, F587745, gm_0, el_0, o587778, rfl, rfl, hs587749, ⟨by omega, by omega⟩, hB, (by omega), mk587751, (fun R c1 c2 c3 c4 c5 c6 c7 c8 c9 c10 c11 c12 => c9 gm_0 el_0 F587242 p587196 p587691 F587728 F587745 q587767 f587772 o587778 hγ0 hel0 n587244 fq587247 fq587252 r587254 r587333 r587335 r587668 r587684 fq587685 fq587713 r587720 hT587729 hs587730 x587726 ht587727 fq587736 hT587746 hs587747 x587742 x587743 ht587744 r587761 fq587762 hx587769 he587771 ht587779)⟩
            · have r587781 : p587691.toInt ≤ p587176.toInt := gC_nlt hc587719
              refine G_aload_n 0 dr_cX17_look_53 rfl ?_
              refine G_iconst 3 dr_cX17_look_54 (by decide +kernel) ?_
              refine Gw_callV (As := [.int 3]) (gV_ok D I) (ct_587261_SpillForgeModel_no l hl0 D I gm_0 el_0 P587173 F587242 q587175 3 hT587248 htq587175) dr_cX17_look_55 ⟨wr_7_191, wr_1_14, wr_7_194, by decide, rfl, (Nat.le_of_ble_eq_true rfl), (Nat.le_of_ble_eq_true rfl)⟩ wr_7_193 wr_p_73 hm587192 he587245 rfl (rm_zc pk587186) (rm_zs pk587186) (Nat.le_of_ble_eq_true rfl) (fun r587785 w587786 dc587782 ds587783 hp587784 => ?_) (fun _ _ _ _ _ z => z.elim)
              obtain ⟨F587790, rfl, rfl, hT587791, hs587792, hdc, hds, x587787, x587788, ht587789⟩ := hp587784
              have he587793 : F587790 q587179 = .inr (18, [.ref q587688, .ref q587689, .int p587690, .int p587691]) := (hs587792 q587179 (rT0 htq587179 (by decide)) (rT1 htq587179 (by decide)) (rT2 htq587179 (by decide))).trans he587687
              have hs587794 := rSk_str hs587249 hT587791 hs587792 (by decide) (by decide) (by decide)
              have mk587795 : mKp (F587174 q587175) (F587790 q587175) := mKp_tr mk587246 x587788
              change G _ _ _ _ _ _ _ (.int 0 :: _) _ _ _
              refine G_widen (cs' := ((rPh gm_0 el_0 f - rPh γ0 el0 f) / 18)) (sl' := (rPh gm_0 el_0 f - rPh γ0 el0 f)) (rm_d0 hdc) (rm_d0 hds) ?_
              exact G_iretA dr_cX17_look_58 rfl (show ((rPh gm_0 el_0 f - rPh γ0 el0 f) / 18) ≤ (((387 * B + 6000) - rPh γ0 el0 f) / 18) by omega) (show (rPh gm_0 el_0 f - rPh γ0 el0 f) ≤ ((387 * B + 6000) - rPh γ0 el0 f) by omega) ⟨P587173, F587790, gm_0, el_0, 0, rfl, rfl, hs587794, ⟨by omega, by omega⟩, hB, (by have qa0 : Int32.toInt 0 = 0 := (by decide); omega), mk587795, (fun R c1 c2 c3 c4 c5 c6 c7 c8 c9 c10 c11 c12 => c10 gm_0 el_0 F587242 p587196 p587691 F587790 hγ0 hel0 n587244 fq587247 fq587252 r587254 r587333 r587335 r587668 r587684 fq587685 fq587713 r587781 hT587791 hs587792 x587787 x587788 ht587789)⟩
      · have r587796 : 3 < p587177.toInt := gj_nle hc587334 (show Int32.toInt 3 = 3 by decide)
        have bp587177'' : gB p587177 4 2147483647 := ⟨by omega, by omega⟩
        refine G_aload_n 0 dr_cX17_look_27 rfl ?_
        refine G_iconst 2 dr_cX17_look_28 (by decide +kernel) ?_
        refine Gw_callV (As := [.int 2]) (gV_ok D I) (ct_587261_SpillForgeModel_no l hl0 D I gm_0 el_0 P587173 F587242 q587175 2 hT587248 htq587175) dr_cX17_look_29 ⟨wr_7_191, wr_1_14, wr_7_194, by decide, rfl, (Nat.le_of_ble_eq_true rfl), (Nat.le_of_ble_eq_true rfl)⟩ wr_7_193 wr_p_73 hm587192 he587245 rfl (rm_zc pk587186) (rm_zs pk587186) (Nat.le_of_ble_eq_true rfl) (fun r587800 w587801 dc587797 ds587798 hp587799 => ?_) (fun _ _ _ _ _ z => z.elim)
        obtain ⟨F587805, rfl, rfl, hT587806, hs587807, hdc, hds, x587802, x587803, ht587804⟩ := hp587799
        have hs587808 := rSk_str hs587249 hT587806 hs587807 (by decide) (by decide) (by decide)
        have mk587809 : mKp (F587174 q587175) (F587805 q587175) := mKp_tr mk587246 x587803
        change G _ _ _ _ _ _ _ (.int 0 :: _) _ _ _
        refine G_widen (cs' := ((rPh gm_0 el_0 f - rPh γ0 el0 f) / 18)) (sl' := (rPh gm_0 el_0 f - rPh γ0 el0 f)) (rm_d0 hdc) (rm_d0 hds) ?_
        exact G_iretA dr_cX17_look_32 rfl (show ((rPh gm_0 el_0 f - rPh γ0 el0 f) / 18) ≤ (((387 * B + 6000) - rPh γ0 el0 f) / 18) by omega) (show (rPh gm_0 el_0 f - rPh γ0 el0 f) ≤ ((387 * B + 6000) - rPh γ0 el0 f) by omega) ⟨P587173, F587805, gm_0, el_0, 0, rfl, rfl, hs587808, ⟨by omega, by omega⟩, hB, (by have qa0 : Int32.toInt 0 = 0 := (by decide); omega), mk587809, (fun R c1 c2 c3 c4 c5 c6 c7 c8 c9 c10 c11 c12 => c11 gm_0 el_0 F587242 p587196 F587805 hγ0 hel0 n587244 fq587247 fq587252 r587254 r587333 r587796 hT587806 hs587807 x587802 x587803 ht587804)⟩
  · have r587810 : p587196.toInt = 0 := gj_eq hc587253 (show Int32.toInt 0 = 0 by decide)
    have bp587196' : gB p587196 0 0 := gB_t0 r587810
    refine G_aload_n 0 dr_cX17_look_12 rfl ?_
    refine G_iconst 1 dr_cX17_look_13 (by decide +kernel) ?_
    refine Gw_callV (As := [.int 1]) (gV_ok D I) (ct_587261_SpillForgeModel_no l hl0 D I gm_0 el_0 P587173 F587242 q587175 1 hT587248 htq587175) dr_cX17_look_14 ⟨wr_7_191, wr_1_14, wr_7_194, by decide, rfl, (Nat.le_of_ble_eq_true rfl), (Nat.le_of_ble_eq_true rfl)⟩ wr_7_193 wr_p_73 hm587192 he587245 rfl (rm_zc pk587186) (rm_zs pk587186) (Nat.le_of_ble_eq_true rfl) (fun r587814 w587815 dc587811 ds587812 hp587813 => ?_) (fun _ _ _ _ _ z => z.elim)
    obtain ⟨F587819, rfl, rfl, hT587820, hs587821, hdc, hds, x587816, x587817, ht587818⟩ := hp587813
    have hs587822 := rSk_str hs587249 hT587820 hs587821 (by decide) (by decide) (by decide)
    have mk587823 : mKp (F587174 q587175) (F587819 q587175) := mKp_tr mk587246 x587817
    change G _ _ _ _ _ _ _ (.int 0 :: _) _ _ _
    refine G_widen (cs' := ((rPh gm_0 el_0 f - rPh γ0 el0 f) / 18)) (sl' := (rPh gm_0 el_0 f - rPh γ0 el0 f)) (rm_d0 hdc) (rm_d0 hds) ?_
    exact G_iretA dr_cX17_look_17 rfl (show ((rPh gm_0 el_0 f - rPh γ0 el0 f) / 18) ≤ (((387 * B + 6000) - rPh γ0 el0 f) / 18) by omega) (show (rPh gm_0 el_0 f - rPh γ0 el0 f) ≤ ((387 * B + 6000) - rPh γ0 el0 f) by omega) ⟨P587173, F587819, gm_0, el_0, 0, rfl, rfl, hs587822, ⟨by omega, by omega⟩, hB, (by have qa0 : Int32.toInt 0 = 0 := (by decide); omega), mk587823, (fun R c1 c2 c3 c4 c5 c6 c7 c8 c9 c10 c11 c12 => c12 gm_0 el_0 F587242 p587196 F587819 hγ0 hel0 n587244 fq587247 fq587252 r587810 hT587820 hs587821 x587816 x587817 ht587818)⟩
