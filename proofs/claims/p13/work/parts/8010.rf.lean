theorem dr_cX17_run__0 : decode cX17_run_ 0 = .ok (.aload_n 0, 1) := by decide +kernel
theorem dr_cX17_run__1 : decode cX17_run_ 1 = .ok (.iconst 0, 1) := by decide +kernel
theorem dr_cX17_run__2 : decode cX17_run_ 2 = .ok (.putfield 380, 3) := by decide +kernel
theorem dr_cX17_run__5 : decode cX17_run_ 5 = .ok (.iload_n 2, 1) := by decide +kernel
theorem dr_cX17_run__6 : decode cX17_run_ 6 = .ok (.iconst 1, 1) := by decide +kernel
theorem dr_cX17_run__7 : decode cX17_run_ 7 = .ok (.if_icmp .lt 10, 3) := by decide +kernel
theorem dr_cX17_run__17 : decode cX17_run_ 17 = .ok (.aload_n 0, 1) := by decide +kernel
theorem dr_cX17_run__18 : decode cX17_run_ 18 = .ok (.iconst 1, 1) := by decide +kernel
theorem dr_cX17_run__19 : decode cX17_run_ 19 = .ok (.invokevirtual 385, 3) := by decide +kernel
theorem dr_cX17_run__22 : decode cX17_run_ 22 = .ok (.ireturn, 1) := by decide +kernel
theorem dr_cX17_run__10 : decode cX17_run_ 10 = .ok (.iload_n 2, 1) := by decide +kernel
theorem dr_cX17_run__11 : decode cX17_run_ 11 = .ok (.ldc_w 434, 3) := by decide +kernel
theorem wr_11_91 : (Jvm.Cond.constant "SpillForgeModel" (434 : Nat) (100000 : Int32)) ∈ gw := gw_11 91 rfl rfl
theorem dr_cX17_run__14 : decode cX17_run_ 14 = .ok (.if_icmp .le 9, 3) := by decide +kernel
theorem dr_cX17_run__23 : decode cX17_run_ 23 = .ok (.iload_n 1, 1) := by decide +kernel
theorem dr_cX17_run__24 : decode cX17_run_ 24 = .ok (.ifCond .eq 13, 3) := by decide +kernel
theorem dr_cX17_run__37 : decode cX17_run_ 37 = .ok (.aload_n 0, 1) := by decide +kernel
theorem dr_cX17_run__38 : decode cX17_run_ 38 = .ok (.getfield 414, 3) := by decide +kernel
theorem wr_7_83 : (Jvm.Cond.fieldLink "SpillForgeModel" (414 : Nat) "SpillForgeModel" "program" "Z") ∈ gw := gw_7 83 rfl rfl
theorem dr_cX17_run__41 : decode cX17_run_ 41 = .ok (.ifCond .ne 9, 3) := by decide +kernel
theorem dr_cX17_run__50 : decode cX17_run_ 50 = .ok (.aload_n 0, 1) := by decide +kernel
theorem dr_cX17_run__51 : decode cX17_run_ 51 = .ok (.aload_n 0, 1) := by decide +kernel
theorem dr_cX17_run__52 : decode cX17_run_ 52 = .ok (.iload_n 1, 1) := by decide +kernel
theorem dr_cX17_run__53 : decode cX17_run_ 53 = .ok (.ifCond .eq 10, 3) := by decide +kernel
theorem dr_cX17_run__63 : decode cX17_run_ 63 = .ok (.aload_n 0, 1) := by decide +kernel
theorem dr_cX17_run__64 : decode cX17_run_ 64 = .ok (.getfield 361, 3) := by decide +kernel
theorem wr_7_80 : (Jvm.Cond.fieldLink "SpillForgeModel" (361 : Nat) "SpillForgeModel" "code" "LSpillForgeModel$Code;") ∈ gw := gw_7 80 rfl rfl
theorem dr_cX17_run__67 : decode cX17_run_ 67 = .ok (.iload_n 2, 1) := by decide +kernel
theorem dr_cX17_run__68 : decode cX17_run_ 68 = .ok (.invokevirtual 435, 3) := by decide +kernel
theorem wr_11_92 : (Jvm.Cond.methodLink "SpillForgeModel" (435 : Nat) ({ cls := "SpillForgeModel", name := "run", desc := "(LSpillForgeModel$Code;I)I" } : Jvm.MethodName)) ∈ gw := gw_11 92 rfl rfl
theorem wr_11_95 : (Jvm.Cond.code ({ cls := "SpillForgeModel", name := "run", desc := "(LSpillForgeModel$Code;I)I" } : Jvm.MethodName) prog_14_method_29_code (7 : Nat) (Option.some Jvm.ClassFile.FieldType.int)) ∈ gw := gw_11 95 rfl rfl
theorem wr_11_94 : (Jvm.Cond.instanceMethod ({ cls := "SpillForgeModel", name := "run", desc := "(LSpillForgeModel$Code;I)I" } : Jvm.MethodName)) ∈ gw := gw_11 94 rfl rfl
theorem wr_p_113 : Cond.selects "SpillForgeModel" ⟨"SpillForgeModel", "run", "(LSpillForgeModel$Code;I)I"⟩ ⟨"SpillForgeModel", "run", "(LSpillForgeModel$Code;I)I"⟩ ∈ gw := gw_p _ 113 rfl rfl rfl
theorem dr_cX17_run__71 : decode cX17_run_ 71 = .ok (.putfield 371, 3) := by decide +kernel
theorem dr_cX17_run__74 : decode cX17_run_ 74 = .ok (.aload_n 0, 1) := by decide +kernel
theorem dr_cX17_run__75 : decode cX17_run_ 75 = .ok (.getfield 371, 3) := by decide +kernel
theorem dr_cX17_run__78 : decode cX17_run_ 78 = .ok (.ireturn, 1) := by decide +kernel
theorem dr_cX17_run__44 : decode cX17_run_ 44 = .ok (.aload_n 0, 1) := by decide +kernel
theorem dr_cX17_run__45 : decode cX17_run_ 45 = .ok (.iconst 2, 1) := by decide +kernel
theorem dr_cX17_run__46 : decode cX17_run_ 46 = .ok (.invokevirtual 385, 3) := by decide +kernel
theorem dr_cX17_run__49 : decode cX17_run_ 49 = .ok (.ireturn, 1) := by decide +kernel
theorem dr_cX17_run__27 : decode cX17_run_ 27 = .ok (.aload_n 0, 1) := by decide +kernel
theorem dr_cX17_run__28 : decode cX17_run_ 28 = .ok (.getfield 416, 3) := by decide +kernel
theorem wr_7_84 : (Jvm.Cond.fieldLink "SpillForgeModel" (416 : Nat) "SpillForgeModel" "isGiven" "Z") ∈ gw := gw_7 84 rfl rfl
theorem dr_cX17_run__31 : decode cX17_run_ 31 = .ok (.ifCond .ne 19, 3) := by decide +kernel
theorem dr_cX17_run__56 : decode cX17_run_ 56 = .ok (.aload_n 0, 1) := by decide +kernel
theorem dr_cX17_run__57 : decode cX17_run_ 57 = .ok (.getfield 365, 3) := by decide +kernel
theorem wr_7_81 : (Jvm.Cond.fieldLink "SpillForgeModel" (365 : Nat) "SpillForgeModel" "given" "LSpillForgeModel$Code;") ∈ gw := gw_7 81 rfl rfl
theorem dr_cX17_run__60 : decode cX17_run_ 60 = .ok (.goto 7, 3) := by decide +kernel
theorem dr_cX17_run__34 : decode cX17_run_ 34 = .ok (.goto 10, 3) := by decide +kernel
theorem dr_cX17_colourCount_0 : decode cX17_colourCount 0 = .ok (.iconst 0, 1) := by decide +kernel
theorem dr_cX17_colourCount_1 : decode cX17_colourCount 1 = .ok (.istore_n 1, 1) := by decide +kernel
theorem dr_cX17_colourCount_2 : decode cX17_colourCount 2 = .ok (.aload_n 0, 1) := by decide +kernel
theorem dr_cX17_colourCount_3 : decode cX17_colourCount 3 = .ok (.aload_n 0, 1) := by decide +kernel
theorem dr_cX17_colourCount_4 : decode cX17_colourCount 4 = .ok (.getfield 365, 3) := by decide +kernel
theorem dr_cX17_colourCount_7 : decode cX17_colourCount 7 = .ok (.iconst 0, 1) := by decide +kernel
theorem dr_cX17_colourCount_8 : decode cX17_colourCount 8 = .ok (.invokevirtual 243, 3) := by decide +kernel
theorem dr_cX17_colourCount_11 : decode cX17_colourCount 11 = .ok (.iconst 0, 1) := by decide +kernel
theorem dr_cX17_colourCount_12 : decode cX17_colourCount 12 = .ok (.istore_n 2, 1) := by decide +kernel
theorem dr_cX17_colourCount_13 : decode cX17_colourCount 13 = .ok (.iload_n 2, 1) := by decide +kernel
theorem dr_cX17_colourCount_14 : decode cX17_colourCount 14 = .ok (.sipush 2000, 3) := by decide +kernel
theorem dr_cX17_colourCount_17 : decode cX17_colourCount 17 = .ok (.if_icmp .ge 26, 3) := by decide +kernel
theorem dr_cX17_colourCount_43 : decode cX17_colourCount 43 = .ok (.iload_n 1, 1) := by decide +kernel
theorem dr_cX17_colourCount_44 : decode cX17_colourCount 44 = .ok (.ireturn, 1) := by decide +kernel
theorem dr_cX17_colourCount_20 : decode cX17_colourCount 20 = .ok (.iload_n 1, 1) := by decide +kernel
theorem dr_cX17_colourCount_21 : decode cX17_colourCount 21 = .ok (.aload_n 0, 1) := by decide +kernel
theorem dr_cX17_colourCount_22 : decode cX17_colourCount 22 = .ok (.getfield 131, 3) := by decide +kernel
theorem dr_cX17_colourCount_25 : decode cX17_colourCount 25 = .ok (.iload_n 2, 1) := by decide +kernel
theorem dr_cX17_colourCount_26 : decode cX17_colourCount 26 = .ok (.baload, 1) := by decide +kernel
theorem dr_cX17_colourCount_27 : decode cX17_colourCount 27 = .ok (.ifCond .eq 7, 3) := by decide +kernel
theorem dr_cX17_colourCount_34 : decode cX17_colourCount 34 = .ok (.iconst 0, 1) := by decide +kernel
theorem dr_cX17_colourCount_35 : decode cX17_colourCount 35 = .ok (.iadd, 1) := by decide +kernel
theorem dr_cX17_colourCount_36 : decode cX17_colourCount 36 = .ok (.istore_n 1, 1) := by decide +kernel
theorem dr_cX17_colourCount_37 : decode cX17_colourCount 37 = .ok (.iinc 2 1, 3) := by decide +kernel
theorem dr_cX17_colourCount_40 : decode cX17_colourCount 40 = .ok (.goto (-27), 3) := by decide +kernel
theorem dr_cX17_colourCount_30 : decode cX17_colourCount 30 = .ok (.iconst 1, 1) := by decide +kernel
theorem dr_cX17_colourCount_31 : decode cX17_colourCount 31 = .ok (.goto 4, 3) := by decide +kernel
theorem dr_cX17_count__0 : decode cX17_count_ 0 = .ok (.aload_n 0, 1) := by decide +kernel
theorem dr_cX17_count__1 : decode cX17_count_ 1 = .ok (.iconst 0, 1) := by decide +kernel
theorem dr_cX17_count__2 : decode cX17_count_ 2 = .ok (.putfield 380, 3) := by decide +kernel
theorem dr_cX17_count__5 : decode cX17_count_ 5 = .ok (.iload_n 1, 1) := by decide +kernel
theorem dr_cX17_count__6 : decode cX17_count_ 6 = .ok (.tableswitch 240 0 11 #[62, 81, 100, 105, 110, 115, 134, 150, 166, 182, 198, 219], 62) := by decide +kernel
theorem dr_cX17_count__68 : decode cX17_count_ 68 = .ok (.aload_n 0, 1) := by decide +kernel
theorem dr_cX17_count__69 : decode cX17_count_ 69 = .ok (.getfield 414, 3) := by decide +kernel
theorem dr_cX17_count__72 : decode cX17_count_ 72 = .ok (.ifCond .eq 13, 3) := by decide +kernel
theorem dr_cX17_count__85 : decode cX17_count_ 85 = .ok (.iconst 0, 1) := by decide +kernel
theorem dr_cX17_count__86 : decode cX17_count_ 86 = .ok (.ireturn, 1) := by decide +kernel
theorem dr_cX17_count__75 : decode cX17_count_ 75 = .ok (.aload_n 0, 1) := by decide +kernel
theorem dr_cX17_count__76 : decode cX17_count_ 76 = .ok (.getfield 361, 3) := by decide +kernel
theorem dr_cX17_count__79 : decode cX17_count_ 79 = .ok (.invokevirtual 96, 3) := by decide +kernel
theorem dr_cX17_count__82 : decode cX17_count_ 82 = .ok (.goto 4, 3) := by decide +kernel
theorem dr_cX17_count__87 : decode cX17_count_ 87 = .ok (.aload_n 0, 1) := by decide +kernel
theorem dr_cX17_count__88 : decode cX17_count_ 88 = .ok (.getfield 414, 3) := by decide +kernel
theorem dr_cX17_count__91 : decode cX17_count_ 91 = .ok (.ifCond .eq 13, 3) := by decide +kernel
theorem dr_cX17_count__104 : decode cX17_count_ 104 = .ok (.iconst 0, 1) := by decide +kernel
theorem dr_cX17_count__105 : decode cX17_count_ 105 = .ok (.ireturn, 1) := by decide +kernel
theorem dr_cX17_count__94 : decode cX17_count_ 94 = .ok (.aload_n 0, 1) := by decide +kernel
theorem dr_cX17_count__95 : decode cX17_count_ 95 = .ok (.getfield 361, 3) := by decide +kernel
theorem dr_cX17_count__98 : decode cX17_count_ 98 = .ok (.invokevirtual 234, 3) := by decide +kernel
theorem wr_10_229 : (Jvm.Cond.methodLink "SpillForgeModel" (234 : Nat) ({ cls := "SpillForgeModel$Code", name := "countRows", desc := "()I" } : Jvm.MethodName)) ∈ gw := gw_10 229 rfl rfl
theorem wr_10_232 : (Jvm.Cond.code ({ cls := "SpillForgeModel$Code", name := "countRows", desc := "()I" } : Jvm.MethodName) prog_16_method_7_code (3 : Nat) (Option.some Jvm.ClassFile.FieldType.int)) ∈ gw := gw_10 232 rfl rfl
theorem wr_10_230 : (Jvm.Cond.instanceMethod ({ cls := "SpillForgeModel$Code", name := "countRows", desc := "()I" } : Jvm.MethodName)) ∈ gw := gw_10 230 rfl rfl
theorem wr_10_231 : (Jvm.Cond.selects "SpillForgeModel$Code" ({ cls := "SpillForgeModel$Code", name := "countRows", desc := "()I" } : Jvm.MethodName) ({ cls := "SpillForgeModel$Code", name := "countRows", desc := "()I" } : Jvm.MethodName)) ∈ gw := gw_10 231 rfl rfl
theorem dr_cX17_count__101 : decode cX17_count_ 101 = .ok (.goto 4, 3) := by decide +kernel
theorem dr_cX17_count__106 : decode cX17_count_ 106 = .ok (.aload_n 0, 1) := by decide +kernel
theorem dr_cX17_count__107 : decode cX17_count_ 107 = .ok (.getfield 392, 3) := by decide +kernel
theorem wr_7_107 : (Jvm.Cond.fieldLink "SpillForgeModel" (392 : Nat) "SpillForgeModel" "reason" "I") ∈ gw := gw_7 107 rfl rfl
theorem dr_cX17_count__110 : decode cX17_count_ 110 = .ok (.ireturn, 1) := by decide +kernel
theorem dr_cX17_count__111 : decode cX17_count_ 111 = .ok (.aload_n 0, 1) := by decide +kernel
theorem dr_cX17_count__112 : decode cX17_count_ 112 = .ok (.getfield 383, 3) := by decide +kernel
theorem dr_cX17_count__115 : decode cX17_count_ 115 = .ok (.ireturn, 1) := by decide +kernel
theorem dr_cX17_count__116 : decode cX17_count_ 116 = .ok (.aload_n 0, 1) := by decide +kernel
theorem dr_cX17_count__117 : decode cX17_count_ 117 = .ok (.getfield 426, 3) := by decide +kernel
theorem wr_7_108 : (Jvm.Cond.fieldLink "SpillForgeModel" (426 : Nat) "SpillForgeModel" "results" "I") ∈ gw := gw_7 108 rfl rfl
theorem dr_cX17_count__120 : decode cX17_count_ 120 = .ok (.ireturn, 1) := by decide +kernel
theorem dr_cX17_count__121 : decode cX17_count_ 121 = .ok (.aload_n 0, 1) := by decide +kernel
theorem dr_cX17_count__122 : decode cX17_count_ 122 = .ok (.getfield 416, 3) := by decide +kernel
theorem dr_cX17_count__125 : decode cX17_count_ 125 = .ok (.ifCond .eq 13, 3) := by decide +kernel
theorem dr_cX17_count__138 : decode cX17_count_ 138 = .ok (.iconst 0, 1) := by decide +kernel
theorem dr_cX17_count__139 : decode cX17_count_ 139 = .ok (.ireturn, 1) := by decide +kernel
theorem dr_cX17_count__128 : decode cX17_count_ 128 = .ok (.aload_n 0, 1) := by decide +kernel
theorem dr_cX17_count__129 : decode cX17_count_ 129 = .ok (.getfield 365, 3) := by decide +kernel
theorem dr_cX17_count__132 : decode cX17_count_ 132 = .ok (.invokevirtual 234, 3) := by decide +kernel
theorem dr_cX17_count__135 : decode cX17_count_ 135 = .ok (.goto 4, 3) := by decide +kernel
theorem dr_cX17_count__140 : decode cX17_count_ 140 = .ok (.aload_n 0, 1) := by decide +kernel
theorem dr_cX17_count__141 : decode cX17_count_ 141 = .ok (.getfield 416, 3) := by decide +kernel
theorem dr_cX17_count__144 : decode cX17_count_ 144 = .ok (.ifCond .eq 10, 3) := by decide +kernel
theorem dr_cX17_count__154 : decode cX17_count_ 154 = .ok (.iconst 0, 1) := by decide +kernel
theorem dr_cX17_count__155 : decode cX17_count_ 155 = .ok (.ireturn, 1) := by decide +kernel
theorem dr_cX17_count__147 : decode cX17_count_ 147 = .ok (.aload_n 0, 1) := by decide +kernel
theorem dr_cX17_count__148 : decode cX17_count_ 148 = .ok (.invokevirtual 429, 3) := by decide +kernel
theorem wr_11_75 : (Jvm.Cond.methodLink "SpillForgeModel" (429 : Nat) ({ cls := "SpillForgeModel", name := "colourCount", desc := "()I" } : Jvm.MethodName)) ∈ gw := gw_11 75 rfl rfl
theorem wr_11_78 : (Jvm.Cond.code ({ cls := "SpillForgeModel", name := "colourCount", desc := "()I" } : Jvm.MethodName) prog_14_method_44_code (3 : Nat) (Option.some Jvm.ClassFile.FieldType.int)) ∈ gw := gw_11 78 rfl rfl
theorem wr_11_77 : (Jvm.Cond.instanceMethod ({ cls := "SpillForgeModel", name := "colourCount", desc := "()I" } : Jvm.MethodName)) ∈ gw := gw_11 77 rfl rfl
theorem wr_p_112 : Cond.selects "SpillForgeModel" ⟨"SpillForgeModel", "colourCount", "()I"⟩ ⟨"SpillForgeModel", "colourCount", "()I"⟩ ∈ gw := gw_p _ 112 rfl rfl rfl
theorem dr_cX17_count__151 : decode cX17_count_ 151 = .ok (.goto 4, 3) := by decide +kernel
theorem dr_cX17_count__156 : decode cX17_count_ 156 = .ok (.aload_n 0, 1) := by decide +kernel
theorem dr_cX17_count__157 : decode cX17_count_ 157 = .ok (.getfield 416, 3) := by decide +kernel
theorem dr_cX17_count__160 : decode cX17_count_ 160 = .ok (.ifCond .eq 10, 3) := by decide +kernel
theorem dr_cX17_count__170 : decode cX17_count_ 170 = .ok (.iconst 0, 1) := by decide +kernel
theorem dr_cX17_count__171 : decode cX17_count_ 171 = .ok (.ireturn, 1) := by decide +kernel
theorem dr_cX17_count__163 : decode cX17_count_ 163 = .ok (.aload_n 0, 1) := by decide +kernel
theorem dr_cX17_count__164 : decode cX17_count_ 164 = .ok (.getfield 224, 3) := by decide +kernel
theorem dr_cX17_count__167 : decode cX17_count_ 167 = .ok (.goto 4, 3) := by decide +kernel
theorem dr_cX17_count__172 : decode cX17_count_ 172 = .ok (.aload_n 0, 1) := by decide +kernel
theorem dr_cX17_count__173 : decode cX17_count_ 173 = .ok (.getfield 416, 3) := by decide +kernel
theorem dr_cX17_count__176 : decode cX17_count_ 176 = .ok (.ifCond .eq 10, 3) := by decide +kernel
theorem dr_cX17_count__186 : decode cX17_count_ 186 = .ok (.iconst 0, 1) := by decide +kernel
theorem dr_cX17_count__187 : decode cX17_count_ 187 = .ok (.ireturn, 1) := by decide +kernel
theorem dr_cX17_count__179 : decode cX17_count_ 179 = .ok (.aload_n 0, 1) := by decide +kernel
theorem dr_cX17_count__180 : decode cX17_count_ 180 = .ok (.getfield 237, 3) := by decide +kernel
theorem wr_7_86 : (Jvm.Cond.fieldLink "SpillForgeModel" (237 : Nat) "SpillForgeModel" "spilled" "I") ∈ gw := gw_7 86 rfl rfl
theorem dr_cX17_count__183 : decode cX17_count_ 183 = .ok (.goto 4, 3) := by decide +kernel
theorem dr_cX17_count__188 : decode cX17_count_ 188 = .ok (.aload_n 0, 1) := by decide +kernel
theorem dr_cX17_count__189 : decode cX17_count_ 189 = .ok (.getfield 416, 3) := by decide +kernel
theorem dr_cX17_count__192 : decode cX17_count_ 192 = .ok (.ifCond .eq 10, 3) := by decide +kernel
theorem dr_cX17_count__202 : decode cX17_count_ 202 = .ok (.iconst 0, 1) := by decide +kernel
theorem dr_cX17_count__203 : decode cX17_count_ 203 = .ok (.ireturn, 1) := by decide +kernel
theorem dr_cX17_count__195 : decode cX17_count_ 195 = .ok (.aload_n 0, 1) := by decide +kernel
theorem dr_cX17_count__196 : decode cX17_count_ 196 = .ok (.getfield 195, 3) := by decide +kernel
theorem dr_cX17_count__199 : decode cX17_count_ 199 = .ok (.goto 4, 3) := by decide +kernel
theorem dr_cX17_count__204 : decode cX17_count_ 204 = .ok (.aload_n 0, 1) := by decide +kernel
theorem dr_cX17_count__205 : decode cX17_count_ 205 = .ok (.getfield 416, 3) := by decide +kernel
theorem dr_cX17_count__208 : decode cX17_count_ 208 = .ok (.ifCond .eq 15, 3) := by decide +kernel
theorem dr_cX17_count__223 : decode cX17_count_ 223 = .ok (.iconst 0, 1) := by decide +kernel
theorem dr_cX17_count__224 : decode cX17_count_ 224 = .ok (.ireturn, 1) := by decide +kernel
theorem dr_cX17_count__211 : decode cX17_count_ 211 = .ok (.aload_n 0, 1) := by decide +kernel
theorem dr_cX17_count__212 : decode cX17_count_ 212 = .ok (.getfield 365, 3) := by decide +kernel
theorem dr_cX17_count__215 : decode cX17_count_ 215 = .ok (.bipush 21, 2) := by decide +kernel
theorem dr_cX17_count__217 : decode cX17_count_ 217 = .ok (.invokevirtual 432, 3) := by decide +kernel
theorem wr_11_79 : (Jvm.Cond.methodLink "SpillForgeModel" (432 : Nat) ({ cls := "SpillForgeModel$Code", name := "count", desc := "(I)I" } : Jvm.MethodName)) ∈ gw := gw_11 79 rfl rfl
theorem wr_11_82 : (Jvm.Cond.code ({ cls := "SpillForgeModel$Code", name := "count", desc := "(I)I" } : Jvm.MethodName) prog_16_method_8_code (5 : Nat) (Option.some Jvm.ClassFile.FieldType.int)) ∈ gw := gw_11 82 rfl rfl
theorem wr_11_80 : (Jvm.Cond.instanceMethod ({ cls := "SpillForgeModel$Code", name := "count", desc := "(I)I" } : Jvm.MethodName)) ∈ gw := gw_11 80 rfl rfl
theorem wr_11_81 : (Jvm.Cond.selects "SpillForgeModel$Code" ({ cls := "SpillForgeModel$Code", name := "count", desc := "(I)I" } : Jvm.MethodName) ({ cls := "SpillForgeModel$Code", name := "count", desc := "(I)I" } : Jvm.MethodName)) ∈ gw := gw_11 81 rfl rfl
theorem dr_cX17_count__220 : decode cX17_count_ 220 = .ok (.goto 4, 3) := by decide +kernel
theorem dr_cX17_count__225 : decode cX17_count_ 225 = .ok (.aload_n 0, 1) := by decide +kernel
theorem dr_cX17_count__226 : decode cX17_count_ 226 = .ok (.getfield 416, 3) := by decide +kernel
theorem dr_cX17_count__229 : decode cX17_count_ 229 = .ok (.ifCond .eq 15, 3) := by decide +kernel
theorem dr_cX17_count__244 : decode cX17_count_ 244 = .ok (.iconst 0, 1) := by decide +kernel
theorem dr_cX17_count__245 : decode cX17_count_ 245 = .ok (.ireturn, 1) := by decide +kernel
theorem dr_cX17_count__232 : decode cX17_count_ 232 = .ok (.aload_n 0, 1) := by decide +kernel
theorem dr_cX17_count__233 : decode cX17_count_ 233 = .ok (.getfield 365, 3) := by decide +kernel
theorem dr_cX17_count__236 : decode cX17_count_ 236 = .ok (.bipush 23, 2) := by decide +kernel
theorem dr_cX17_count__238 : decode cX17_count_ 238 = .ok (.invokevirtual 432, 3) := by decide +kernel
theorem dr_cX17_count__241 : decode cX17_count_ 241 = .ok (.goto 4, 3) := by decide +kernel
theorem dr_cX17_count__246 : decode cX17_count_ 246 = .ok (.aload_n 0, 1) := by decide +kernel
theorem dr_cX17_count__247 : decode cX17_count_ 247 = .ok (.iconst 1, 1) := by decide +kernel
theorem dr_cX17_count__248 : decode cX17_count_ 248 = .ok (.invokevirtual 385, 3) := by decide +kernel
theorem dr_cX17_count__251 : decode cX17_count_ 251 = .ok (.ireturn, 1) := by decide +kernel
abbrev ky_588004_SpillForgeModel_run : gKey := (cX17_run_, 3, "SpillForgeModel", (some FieldType.int), [], "run", fun _ _ => True)
def pt_588004_SpillForgeModel_run (D : va_G) (I : FieldType → ClassId) (γ el : Nat → Nat → Nat) (P587997 : List Nat) (F587998 : Nat → va_E) (q587999 : Nat) (p588000 : Int32) (p588001 : Int32) : Option Value → va_W → Nat → Nat → Prop := fun r w dc ds => ∃ (F588527 : Nat → va_E) (o588526 : Int32), r = some (.int o588526) ∧ w = va_pl P587997 F588527 ∧ RS D I P587997 F588527 γ el ∧ rStr γ [97] F587998 F588527 ∧ dc ≤ 0 ∧ ds ≤ 0 ∧ gB o588526 0 5 ∧ (fI (F588527 q587999) 9).toInt = (fI (F587998 q587999) 9).toInt ∧ (fI (F588527 q587999) 10).toInt = (fI (F587998 q587999) 10).toInt ∧ (fI (F588527 q587999) 32).toInt = (fI (F587998 q587999) 32).toInt ∧ tr_RModel_run2 D I γ el P587997 F587998 q587999 p588000 p588001 o588526 F588527
set_option maxRecDepth 100000 in
set_option maxHeartbeats 4000000 in
theorem ct_588004_SpillForgeModel_run (l : Launch) (hl0 : l.stackTraces = false) (D : va_G) (I : FieldType → ClassId) (γ el : Nat → Nat → Nat) (P587997 : List Nat) (F587998 : Nat → va_E) (q587999 : Nat) (p588000 : Int32) (p588001 : Int32) (hT : RS D I P587997 F587998 γ el) (htq587999 : rKd γ q587999 10) (bp588000 : gB p588000 0 1) (x588002 : ((fI (F587998 q587999) 9).toInt = 0 ∨ 0 < γ 6 0)) (x588003 : ((fI (F587998 q587999) 10).toInt = 0 ∨ 0 < γ 6 1)) : CtA (gV D I) l yX17_run_ cX17_run_ 3 (some FieldType.int) 5 111 0 0 [.ref q587999, .int p588000, .int p588001] (va_pl P587997 F587998) (pt_588004_SpillForgeModel_run D I γ el P587997 F587998 q587999 p588000 p588001) gNA := by
  refine CtA_of hl0 (by decide) (Nat.le_of_ble_eq_true rfl) ?_
  have bp588001 := gB_any p588001
  have hm588005 : q587999 ∈ P587997 := RS_m hT htq587999 (by decide)
  refine rk10_e (show rk_10 γ (F587998 q587999) from RS_o hT htq587999) (fun q588007 q588008 p588009 p588010 p588011 p588012 p588013 p588014 p588015 p588016 p588017 p588018 p588019 p588020 p588021 p588022 p588023 he588006 hB588050 ht588024 ht588025 ht588026 ht588027 ht588028 ht588029 ht588030 ht588031 ht588032 ht588033 ht588034 ht588035 ht588036 ht588037 ht588038 ht588039 ht588040 ht588041 ht588042 ht588043 ht588044 ht588045 ht588046 ht588047 hB588051 => ?_)
  have ac588052 : (fI (F587998 q587999) 9).toInt = p588009.toInt := by rw [he588006]; rfl
  have bp588009 : gB p588009 0 1 := (hB588050.1)
  have ac588053 : (fI (F587998 q587999) 10).toInt = p588010.toInt := by rw [he588006]; rfl
  have bp588010 : gB p588010 0 1 := (hB588050.2.1)
  have ac588054 : (fI (F587998 q587999) 32).toInt = p588021.toInt := by rw [he588006]; rfl
  have bp588021 : gB p588021 0 8192 := (hB588050.2.2.2.2.2.2.2.1)
  have fq588055 : γ 6 (γ 1 (γ 9 6)) = γ 6 0 := by rw [show γ 1 (γ 9 6) = 0 from ht588045]
  have fq588056 : γ 6 (γ 1 (γ 9 7)) = γ 6 1 := by rw [show γ 1 (γ 9 7) = 1 from ht588046]
  have fq588057 : γ 6 (γ 1 (γ 9 8)) = γ 6 2 := by rw [show γ 1 (γ 9 8) = 2 from ht588047]
  have r588058 : p588023.toInt ≤ γ 12 q588008 := by have z := hB588051; unfold rM2 at z; exact z.2.2
  refine G_aload_n 0 dr_cX17_run__0 rfl ?_
  refine G_iconst 0 dr_cX17_run__1 (by decide +kernel) ?_
  refine Gp_put 30 hm588005 he588006 dr_cX17_run__2 (gk_X17 D I) (Nat.le_of_ble_eq_true rfl) wr_7_104 rfl rfl rfl (Nat.le_of_ble_eq_true rfl) (fun F588059 e588060 n588061 => ?_)
  have he588062 : F588059 q587999 = .inr (22, [.ref (γ 9 0), .ref (γ 9 1), .ref (γ 9 2), .ref (γ 9 3), .ref (γ 9 4), .ref (γ 9 5), .ref (γ 9 6), .ref (γ 9 7), .ref (γ 9 8), .int p588009, .int p588010, .int p588011, .int p588012, .int p588013, .int p588014, .ref (γ 9 15), .ref (γ 9 16), .ref (γ 9 17), .ref (γ 9 18), .ref (γ 9 19), .ref (γ 9 20), .ref (γ 9 21), .ref (γ 9 22), .int p588015, .int p588016, .int p588017, .int p588018, .int p588019, .ref q588007, .ref (γ 9 29), .int 0, .ref (γ 9 31), .int p588021, .int p588022, .int p588023, .ref q588008]) := e588060
  have hs588063 : rStr γ [97] F587998 F588059 := rStr_put (rStr_rf (γ := γ) (W := [97]) (F := F587998)) n588061 htq587999 (by decide)
  have fq588064 : F588059 q587999 = cF (F587998 q587999) 30 (.int 0) := by rw [he588062, he588006]; rfl
  refine G_iload_n 2 dr_cX17_run__5 rfl ?_
  refine G_iconst 1 dr_cX17_run__6 (by decide +kernel) ?_
  refine G_icmp_lt 17 dr_cX17_run__7 (by decide +kernel) (fun hc588065 => ?_) (fun hc588065 => ?_)
  · have r588066 : p588001.toInt < 1 := gj_lt hc588065 (show Int32.toInt 1 = 1 by decide)
    have bp588001' : gB p588001 (-2147483648) 0 := ⟨by omega, by omega⟩
    refine G_aload_n 0 dr_cX17_run__17 rfl ?_
    refine G_iconst 1 dr_cX17_run__18 (by decide +kernel) ?_
    have hT588067 : RS D I P587997 F588059 γ el := RS_set hT n588061 htq587999 (by decide) ⟨q588007, q588008, p588009, p588010, p588011, p588012, p588013, p588014, p588015, p588016, p588017, p588018, p588019, 0, p588021, p588022, p588023, he588062, ⟨bp588009, bp588010, (hB588050.2.2.1), (hB588050.2.2.2.1), (hB588050.2.2.2.2.1), (hB588050.2.2.2.2.2.1), (hB588050.2.2.2.2.2.2.1), bp588021, (hB588050.2.2.2.2.2.2.2.2)⟩, ht588024, ht588025, ht588026, ht588027, ht588028, ht588029, ht588030, ht588031, ht588032, ht588033, ht588034, ht588035, ht588036, ht588037, ht588038, ht588039, ht588040, ht588041, ht588042, ht588043, ht588044, ht588045, ht588046, ht588047, hB588051⟩
    have ac588068 : (fI (F588059 q587999) 9).toInt = p588009.toInt := by rw [he588062]; rfl
    have ac588069 : (fI (F588059 q587999) 10).toInt = p588010.toInt := by rw [he588062]; rfl
    have ac588070 : (fI (F588059 q587999) 32).toInt = p588021.toInt := by rw [he588062]; rfl
    refine Gw_callV (As := [.int 1]) (gV_ok D I) (ct_581027_SpillForgeModel_no l hl0 D I γ el P587997 F588059 q587999 1 hT588067 htq587999) dr_cX17_run__19 ⟨wr_7_191, wr_1_14, wr_7_194, by decide, rfl, (Nat.le_of_ble_eq_true rfl), (Nat.le_of_ble_eq_true rfl)⟩ wr_7_193 wr_p_73 hm588005 he588062 rfl (show 0 + 0 ≤ 0 by first | omega | decide) (show 0 + 0 ≤ 0 by first | omega | decide) (Nat.le_of_ble_eq_true rfl) (fun r588074 w588075 dc588071 ds588072 hp588073 => ?_) (fun _ _ _ _ _ z => z.elim)
    obtain ⟨F588081, rfl, rfl, hT588082, hs588083, hdc, hds, x588076, x588077, x588078, x588079, ht588080⟩ := hp588073
    have hs588084 : rStr γ [97] F587998 F588081 := rStr_tr hs588063 (rStr_w hs588083 (by decide))
    rw [show Int32.toInt 1 = 1 from by decide] at x588079
    change G _ _ _ _ _ _ _ (.int 0 :: _) _ _ _
    refine G_widen (cs' := 0) (sl' := 0) (by omega) (by omega) ?_
    have hm588085 : q587999 ∈ P587997 := RS_m hT588082 htq587999 (by decide)
    refine rk10_e (show rk_10 γ (F588081 q587999) from RS_o hT588082 htq587999) (fun q588087 q588088 p588089 p588090 p588091 p588092 p588093 p588094 p588095 p588096 p588097 p588098 p588099 p588100 p588101 p588102 p588103 he588086 hB588130 ht588104 ht588105 ht588106 ht588107 ht588108 ht588109 ht588110 ht588111 ht588112 ht588113 ht588114 ht588115 ht588116 ht588117 ht588118 ht588119 ht588120 ht588121 ht588122 ht588123 ht588124 ht588125 ht588126 ht588127 hB588131 => ?_)
    have ac588132 : (fI (F588081 q587999) 9).toInt = p588089.toInt := by rw [he588086]; rfl
    have bp588089 : gB p588089 0 1 := (hB588130.1)
    have ac588133 : (fI (F588081 q587999) 10).toInt = p588090.toInt := by rw [he588086]; rfl
    have bp588090 : gB p588090 0 1 := (hB588130.2.1)
    have ac588134 : (fI (F588081 q587999) 32).toInt = p588101.toInt := by rw [he588086]; rfl
    have bp588101 : gB p588101 0 8192 := (hB588130.2.2.2.2.2.2.2.1)
    have ac588135 : (fI (F588081 q587999) 9).toInt = p588089.toInt := by rw [he588086]; rfl
    have ac588136 : (fI (F588081 q587999) 10).toInt = p588090.toInt := by rw [he588086]; rfl
    have ac588137 : (fI (F588081 q587999) 32).toInt = p588101.toInt := by rw [he588086]; rfl
    exact G_iretA dr_cX17_run__22 rfl (Nat.le_of_ble_eq_true rfl) (Nat.le_of_ble_eq_true rfl) ⟨F588081, 0, rfl, rfl, hT588082, hs588084, (Nat.le_of_ble_eq_true rfl), (Nat.le_of_ble_eq_true rfl), (gB_w (gBl (show Int32.toInt 0 = 0 by decide)) (by decide) (by decide)), (by have qa0 : Int32.toInt 0 = 0 := (by decide); omega), (by have qa0 : Int32.toInt 0 = 0 := (by decide); omega), (by have qa0 : Int32.toInt 0 = 0 := (by decide); omega), (fun R c1 c2 c3 c4 c5 c6 => c1 F588059 F588081 n588061 fq588064 r588066 hT588082 hs588083 x588076 x588077 x588078 x588079 ht588080)⟩
  · have r588138 : 1 ≤ p588001.toInt := gj_nlt hc588065 (show Int32.toInt 1 = 1 by decide)
    have bp588001' : gB p588001 1 2147483647 := ⟨by omega, by omega⟩
    refine G_iload_n 2 dr_cX17_run__10 rfl ?_
    refine G_ldcw 100000 dr_cX17_run__11 wr_11_91 ?_
    refine G_icmp_le 23 dr_cX17_run__14 (by decide +kernel) (fun hc588139 => ?_) (fun hc588139 => ?_)
    · have r588140 : p588001.toInt ≤ 100000 := gj_le hc588139 (show Int32.toInt 100000 = 100000 by decide)
      have bp588001'' : gB p588001 1 100000 := ⟨by omega, by omega⟩
      refine G_iload_n 1 dr_cX17_run__23 rfl ?_
      refine G_if_eq 37 dr_cX17_run__24 (by decide +kernel) (fun hc588141 => ?_) (fun hc588141 => ?_)
      · have r588142 : p588000.toInt = 0 := gj_eq hc588141 (show Int32.toInt 0 = 0 by decide)
        have bp588000' : gB p588000 0 0 := gB_t0 r588142
        refine G_aload_n 0 dr_cX17_run__37 rfl ?_
        have fq588143 : fI (F588059 q587999) 9 = p588009 := by rw [he588062]; rfl
        refine Gp_get 9 hm588005 he588062 dr_cX17_run__38 (gk_X17 D I) (Nat.le_of_ble_eq_true rfl) wr_7_83 rfl ?_
        refine G_if_ne 50 dr_cX17_run__41 (by decide +kernel) (fun hc588144 => ?_) (fun hc588144 => ?_)
        · have r588145 : p588009.toInt ≠ 0 := gj_neq hc588144 (show Int32.toInt 0 = 0 by decide)
          have bp588009' : gB p588009 1 1 := gB_t1 bp588009 r588145
          refine G_aload_n 0 dr_cX17_run__50 rfl ?_
          refine G_aload_n 0 dr_cX17_run__51 rfl ?_
          refine G_iload_n 1 dr_cX17_run__52 rfl ?_
          refine G_if_eq 63 dr_cX17_run__53 (by decide +kernel) (fun _ => ?_) (fun hc => absurd (show False by have := gj_neq hc (show Int32.toInt 0 = 0 by decide); omega) not_false)
          refine G_aload_n 0 dr_cX17_run__63 rfl ?_
          have fq588146 : fR (F588059 q587999) 6 = (γ 9 6) := by rw [he588062]; rfl
          refine Gp_get 6 hm588005 he588062 dr_cX17_run__64 (gk_X17 D I) (Nat.le_of_ble_eq_true rfl) wr_7_80 rfl ?_
          refine G_iload_n 2 dr_cX17_run__67 rfl ?_
          have hT588147 : RS D I P587997 F588059 γ el := RS_set hT n588061 htq587999 (by decide) ⟨q588007, q588008, p588009, p588010, p588011, p588012, p588013, p588014, p588015, p588016, p588017, p588018, p588019, 0, p588021, p588022, p588023, he588062, ⟨(gB_w bp588009' (by decide) (by decide)), bp588010, (hB588050.2.2.1), (hB588050.2.2.2.1), (hB588050.2.2.2.2.1), (hB588050.2.2.2.2.2.1), (hB588050.2.2.2.2.2.2.1), bp588021, (hB588050.2.2.2.2.2.2.2.2)⟩, ht588024, ht588025, ht588026, ht588027, ht588028, ht588029, ht588030, ht588031, ht588032, ht588033, ht588034, ht588035, ht588036, ht588037, ht588038, ht588039, ht588040, ht588041, ht588042, ht588043, ht588044, ht588045, ht588046, ht588047, hB588051⟩
          have ac588148 : (fI (F588059 q587999) 9).toInt = p588009.toInt := by rw [he588062]; rfl
          have ac588149 : (fI (F588059 q587999) 10).toInt = p588010.toInt := by rw [he588062]; rfl
          have ac588150 : (fI (F588059 q587999) 32).toInt = p588021.toInt := by rw [he588062]; rfl
          refine Gw_callV (As := [.ref (γ 9 6), .int p588001]) (gV_ok D I) (ct_582690_SpillForgeModel_run l hl0 D I γ el P587997 F588059 q587999 (γ 9 6) p588001 hT588147 htq587999 ht588032 bp588001'' (by have qa0 : Int32.toInt 0 = 0 := (by decide); omega)) dr_cX17_run__68 ⟨wr_11_92, wr_1_14, wr_11_95, by decide, rfl, (Nat.le_of_ble_eq_true rfl), (Nat.le_of_ble_eq_true rfl)⟩ wr_11_94 wr_p_113 hm588005 he588062 rfl (show 0 + 0 ≤ 0 by first | omega | decide) (show 0 + 0 ≤ 0 by first | omega | decide) (Nat.le_of_ble_eq_true rfl) (fun r588154 w588155 dc588151 ds588152 hp588153 => ?_) (fun _ _ _ _ _ z => z.elim)
          obtain ⟨F588161, o588156, rfl, rfl, hT588162, hs588163, hdc, hds, bo588156, x588157, x588158, x588159, ht588160⟩ := hp588153
          have hs588164 : rStr γ [97] F587998 F588161 := rStr_tr hs588063 hs588163
          change G _ _ _ _ _ _ _ (.int o588156 :: _) _ _ _
          refine G_widen (cs' := 0) (sl' := 0) (by omega) (by omega) ?_
          have hm588165 : q587999 ∈ P587997 := RS_m hT588162 htq587999 (by decide)
          refine rk10_e (show rk_10 γ (F588161 q587999) from RS_o hT588162 htq587999) (fun q588167 q588168 p588169 p588170 p588171 p588172 p588173 p588174 p588175 p588176 p588177 p588178 p588179 p588180 p588181 p588182 p588183 he588166 hB588210 ht588184 ht588185 ht588186 ht588187 ht588188 ht588189 ht588190 ht588191 ht588192 ht588193 ht588194 ht588195 ht588196 ht588197 ht588198 ht588199 ht588200 ht588201 ht588202 ht588203 ht588204 ht588205 ht588206 ht588207 hB588211 => ?_)
          have ac588212 : (fI (F588161 q587999) 9).toInt = p588169.toInt := by rw [he588166]; rfl
          have bp588169 : gB p588169 0 1 := (hB588210.1)
          have ac588213 : (fI (F588161 q587999) 10).toInt = p588170.toInt := by rw [he588166]; rfl
          have bp588170 : gB p588170 0 1 := (hB588210.2.1)
          have ac588214 : (fI (F588161 q587999) 32).toInt = p588181.toInt := by rw [he588166]; rfl
          have bp588181 : gB p588181 0 8192 := (hB588210.2.2.2.2.2.2.2.1)
          refine Gp_put 23 hm588165 he588166 dr_cX17_run__71 (gk_X17 D I) (Nat.le_of_ble_eq_true rfl) wr_7_97 rfl rfl rfl (Nat.le_of_ble_eq_true rfl) (fun F588215 e588216 n588217 => ?_)
          have he588218 : F588215 q587999 = .inr (22, [.ref (γ 9 0), .ref (γ 9 1), .ref (γ 9 2), .ref (γ 9 3), .ref (γ 9 4), .ref (γ 9 5), .ref (γ 9 6), .ref (γ 9 7), .ref (γ 9 8), .int p588169, .int p588170, .int p588171, .int p588172, .int p588173, .int p588174, .ref (γ 9 15), .ref (γ 9 16), .ref (γ 9 17), .ref (γ 9 18), .ref (γ 9 19), .ref (γ 9 20), .ref (γ 9 21), .ref (γ 9 22), .int o588156, .int p588176, .int p588177, .int p588178, .int p588179, .ref q588167, .ref (γ 9 29), .int p588180, .ref (γ 9 31), .int p588181, .int p588182, .int p588183, .ref q588168]) := e588216
          have hs588219 : rStr γ [97] F587998 F588215 := rStr_put hs588164 n588217 htq587999 (by decide)
          have fq588220 : F588215 q587999 = cF (F588161 q587999) 23 (.int o588156) := by rw [he588218, he588166]; rfl
          refine G_aload_n 0 dr_cX17_run__74 rfl ?_
          have fq588221 : fI (F588215 q587999) 23 = o588156 := by rw [he588218]; rfl
          refine Gp_get 23 hm588165 he588218 dr_cX17_run__75 (gk_X17 D I) (Nat.le_of_ble_eq_true rfl) wr_7_97 rfl ?_
          have hT588222 : RS D I P587997 F588215 γ el := RS_set hT588162 n588217 htq587999 (by decide) ⟨q588167, q588168, p588169, p588170, p588171, p588172, p588173, p588174, o588156, p588176, p588177, p588178, p588179, p588180, p588181, p588182, p588183, he588218, ⟨bp588169, bp588170, (hB588210.2.2.1), (hB588210.2.2.2.1), (hB588210.2.2.2.2.1), (hB588210.2.2.2.2.2.1), (hB588210.2.2.2.2.2.2.1), bp588181, (hB588210.2.2.2.2.2.2.2.2)⟩, ht588184, ht588185, ht588186, ht588187, ht588188, ht588189, ht588190, ht588191, ht588192, ht588193, ht588194, ht588195, ht588196, ht588197, ht588198, ht588199, ht588200, ht588201, ht588202, ht588203, ht588204, ht588205, ht588206, ht588207, hB588211⟩
          have ac588223 : (fI (F588215 q587999) 9).toInt = p588169.toInt := by rw [he588218]; rfl
          have ac588224 : (fI (F588215 q587999) 10).toInt = p588170.toInt := by rw [he588218]; rfl
          have ac588225 : (fI (F588215 q587999) 32).toInt = p588181.toInt := by rw [he588218]; rfl
          exact G_iretA dr_cX17_run__78 rfl (Nat.le_of_ble_eq_true rfl) (Nat.le_of_ble_eq_true rfl) ⟨F588215, o588156, rfl, rfl, hT588222, hs588219, (Nat.le_of_ble_eq_true rfl), (Nat.le_of_ble_eq_true rfl), bo588156, (by omega), (by omega), (by omega), (fun R c1 c2 c3 c4 c5 c6 => c2 F588059 p588009 o588156 F588161 F588215 n588061 fq588064 r588138 r588140 r588142 fq588143 r588145 fq588146 bo588156 hT588162 hs588163 x588157 x588158 x588159 ht588160 n588217 fq588220 fq588221)⟩
        · have r588226 : p588009.toInt = 0 := gj_eq hc588144 (show Int32.toInt 0 = 0 by decide)
          have bp588009' : gB p588009 0 0 := gB_t0 r588226
          refine G_aload_n 0 dr_cX17_run__44 rfl ?_
          refine G_iconst 2 dr_cX17_run__45 (by decide +kernel) ?_
          have hT588227 : RS D I P587997 F588059 γ el := RS_set hT n588061 htq587999 (by decide) ⟨q588007, q588008, p588009, p588010, p588011, p588012, p588013, p588014, p588015, p588016, p588017, p588018, p588019, 0, p588021, p588022, p588023, he588062, ⟨(gB_w bp588009' (by decide) (by decide)), bp588010, (hB588050.2.2.1), (hB588050.2.2.2.1), (hB588050.2.2.2.2.1), (hB588050.2.2.2.2.2.1), (hB588050.2.2.2.2.2.2.1), bp588021, (hB588050.2.2.2.2.2.2.2.2)⟩, ht588024, ht588025, ht588026, ht588027, ht588028, ht588029, ht588030, ht588031, ht588032, ht588033, ht588034, ht588035, ht588036, ht588037, ht588038, ht588039, ht588040, ht588041, ht588042, ht588043, ht588044, ht588045, ht588046, ht588047, hB588051⟩
          have ac588228 : (fI (F588059 q587999) 9).toInt = p588009.toInt := by rw [he588062]; rfl
          have ac588229 : (fI (F588059 q587999) 10).toInt = p588010.toInt := by rw [he588062]; rfl
          have ac588230 : (fI (F588059 q587999) 32).toInt = p588021.toInt := by rw [he588062]; rfl
          refine Gw_callV (As := [.int 2]) (gV_ok D I) (ct_581027_SpillForgeModel_no l hl0 D I γ el P587997 F588059 q587999 2 hT588227 htq587999) dr_cX17_run__46 ⟨wr_7_191, wr_1_14, wr_7_194, by decide, rfl, (Nat.le_of_ble_eq_true rfl), (Nat.le_of_ble_eq_true rfl)⟩ wr_7_193 wr_p_73 hm588005 he588062 rfl (show 0 + 0 ≤ 0 by first | omega | decide) (show 0 + 0 ≤ 0 by first | omega | decide) (Nat.le_of_ble_eq_true rfl) (fun r588234 w588235 dc588231 ds588232 hp588233 => ?_) (fun _ _ _ _ _ z => z.elim)
          obtain ⟨F588241, rfl, rfl, hT588242, hs588243, hdc, hds, x588236, x588237, x588238, x588239, ht588240⟩ := hp588233
          have hs588244 : rStr γ [97] F587998 F588241 := rStr_tr hs588063 (rStr_w hs588243 (by decide))
          rw [show Int32.toInt 2 = 2 from by decide] at x588239
          change G _ _ _ _ _ _ _ (.int 0 :: _) _ _ _
          refine G_widen (cs' := 0) (sl' := 0) (by omega) (by omega) ?_
          have hm588245 : q587999 ∈ P587997 := RS_m hT588242 htq587999 (by decide)
          refine rk10_e (show rk_10 γ (F588241 q587999) from RS_o hT588242 htq587999) (fun q588247 q588248 p588249 p588250 p588251 p588252 p588253 p588254 p588255 p588256 p588257 p588258 p588259 p588260 p588261 p588262 p588263 he588246 hB588290 ht588264 ht588265 ht588266 ht588267 ht588268 ht588269 ht588270 ht588271 ht588272 ht588273 ht588274 ht588275 ht588276 ht588277 ht588278 ht588279 ht588280 ht588281 ht588282 ht588283 ht588284 ht588285 ht588286 ht588287 hB588291 => ?_)
          have ac588292 : (fI (F588241 q587999) 9).toInt = p588249.toInt := by rw [he588246]; rfl
          have bp588249 : gB p588249 0 1 := (hB588290.1)
          have ac588293 : (fI (F588241 q587999) 10).toInt = p588250.toInt := by rw [he588246]; rfl
          have bp588250 : gB p588250 0 1 := (hB588290.2.1)
          have ac588294 : (fI (F588241 q587999) 32).toInt = p588261.toInt := by rw [he588246]; rfl
          have bp588261 : gB p588261 0 8192 := (hB588290.2.2.2.2.2.2.2.1)
          have ac588295 : (fI (F588241 q587999) 9).toInt = p588249.toInt := by rw [he588246]; rfl
          have ac588296 : (fI (F588241 q587999) 10).toInt = p588250.toInt := by rw [he588246]; rfl
          have ac588297 : (fI (F588241 q587999) 32).toInt = p588261.toInt := by rw [he588246]; rfl
          exact G_iretA dr_cX17_run__49 rfl (Nat.le_of_ble_eq_true rfl) (Nat.le_of_ble_eq_true rfl) ⟨F588241, 0, rfl, rfl, hT588242, hs588244, (Nat.le_of_ble_eq_true rfl), (Nat.le_of_ble_eq_true rfl), (gB_w (gBl (show Int32.toInt 0 = 0 by decide)) (by decide) (by decide)), (by have qa0 : Int32.toInt 0 = 0 := (by decide); omega), (by have qa0 : Int32.toInt 0 = 0 := (by decide); omega), (by have qa0 : Int32.toInt 0 = 0 := (by decide); omega), (fun R c1 c2 c3 c4 c5 c6 => c3 F588059 p588009 F588241 n588061 fq588064 r588138 r588140 r588142 fq588143 r588226 hT588242 hs588243 x588236 x588237 x588238 x588239 ht588240)⟩
      · have r588298 : p588000.toInt ≠ 0 := gj_neq hc588141 (show Int32.toInt 0 = 0 by decide)
        have bp588000' : gB p588000 1 1 := gB_t1 bp588000 r588298
        refine G_aload_n 0 dr_cX17_run__27 rfl ?_
        have fq588299 : fI (F588059 q587999) 10 = p588010 := by rw [he588062]; rfl
        refine Gp_get 10 hm588005 he588062 dr_cX17_run__28 (gk_X17 D I) (Nat.le_of_ble_eq_true rfl) wr_7_84 rfl ?_
        refine G_if_ne 50 dr_cX17_run__31 (by decide +kernel) (fun hc588300 => ?_) (fun hc588300 => ?_)
        · have r588301 : p588010.toInt ≠ 0 := gj_neq hc588300 (show Int32.toInt 0 = 0 by decide)
          have bp588010' : gB p588010 1 1 := gB_t1 bp588010 r588301
          refine G_aload_n 0 dr_cX17_run__50 rfl ?_
          refine G_aload_n 0 dr_cX17_run__51 rfl ?_
          refine G_iload_n 1 dr_cX17_run__52 rfl ?_
          refine G_if_eq 63 dr_cX17_run__53 (by decide +kernel) (fun hc => absurd (show False by have := gj_eq hc (show Int32.toInt 0 = 0 by decide); omega) not_false) (fun _ => ?_)
          refine G_aload_n 0 dr_cX17_run__56 rfl ?_
          have fq588302 : fR (F588059 q587999) 7 = (γ 9 7) := by rw [he588062]; rfl
          refine Gp_get 7 hm588005 he588062 dr_cX17_run__57 (gk_X17 D I) (Nat.le_of_ble_eq_true rfl) wr_7_81 rfl ?_
          refine G_goto 67 dr_cX17_run__60 (by decide +kernel) ?_
          refine G_iload_n 2 dr_cX17_run__67 rfl ?_
          have hT588303 : RS D I P587997 F588059 γ el := RS_set hT n588061 htq587999 (by decide) ⟨q588007, q588008, p588009, p588010, p588011, p588012, p588013, p588014, p588015, p588016, p588017, p588018, p588019, 0, p588021, p588022, p588023, he588062, ⟨bp588009, (gB_w bp588010' (by decide) (by decide)), (hB588050.2.2.1), (hB588050.2.2.2.1), (hB588050.2.2.2.2.1), (hB588050.2.2.2.2.2.1), (hB588050.2.2.2.2.2.2.1), bp588021, (hB588050.2.2.2.2.2.2.2.2)⟩, ht588024, ht588025, ht588026, ht588027, ht588028, ht588029, ht588030, ht588031, ht588032, ht588033, ht588034, ht588035, ht588036, ht588037, ht588038, ht588039, ht588040, ht588041, ht588042, ht588043, ht588044, ht588045, ht588046, ht588047, hB588051⟩
          have ac588304 : (fI (F588059 q587999) 9).toInt = p588009.toInt := by rw [he588062]; rfl
          have ac588305 : (fI (F588059 q587999) 10).toInt = p588010.toInt := by rw [he588062]; rfl
          have ac588306 : (fI (F588059 q587999) 32).toInt = p588021.toInt := by rw [he588062]; rfl
          refine Gw_callV (As := [.ref (γ 9 7), .int p588001]) (gV_ok D I) (ct_582690_SpillForgeModel_run l hl0 D I γ el P587997 F588059 q587999 (γ 9 7) p588001 hT588303 htq587999 ht588033 bp588001'' (by have qa0 : Int32.toInt 0 = 0 := (by decide); omega)) dr_cX17_run__68 ⟨wr_11_92, wr_1_14, wr_11_95, by decide, rfl, (Nat.le_of_ble_eq_true rfl), (Nat.le_of_ble_eq_true rfl)⟩ wr_11_94 wr_p_113 hm588005 he588062 rfl (show 0 + 0 ≤ 0 by first | omega | decide) (show 0 + 0 ≤ 0 by first | omega | decide) (Nat.le_of_ble_eq_true rfl) (fun r588310 w588311 dc588307 ds588308 hp588309 => ?_) (fun _ _ _ _ _ z => z.elim)
          obtain ⟨F588317, o588312, rfl, rfl, hT588318, hs588319, hdc, hds, bo588312, x588313, x588314, x588315, ht588316⟩ := hp588309
          have hs588320 : rStr γ [97] F587998 F588317 := rStr_tr hs588063 hs588319
          change G _ _ _ _ _ _ _ (.int o588312 :: _) _ _ _
          refine G_widen (cs' := 0) (sl' := 0) (by omega) (by omega) ?_
          have hm588321 : q587999 ∈ P587997 := RS_m hT588318 htq587999 (by decide)
          refine rk10_e (show rk_10 γ (F588317 q587999) from RS_o hT588318 htq587999) (fun q588323 q588324 p588325 p588326 p588327 p588328 p588329 p588330 p588331 p588332 p588333 p588334 p588335 p588336 p588337 p588338 p588339 he588322 hB588366 ht588340 ht588341 ht588342 ht588343 ht588344 ht588345 ht588346 ht588347 ht588348 ht588349 ht588350 ht588351 ht588352 ht588353 ht588354 ht588355 ht588356 ht588357 ht588358 ht588359 ht588360 ht588361 ht588362 ht588363 hB588367 => ?_)
          have ac588368 : (fI (F588317 q587999) 9).toInt = p588325.toInt := by rw [he588322]; rfl
          have bp588325 : gB p588325 0 1 := (hB588366.1)
          have ac588369 : (fI (F588317 q587999) 10).toInt = p588326.toInt := by rw [he588322]; rfl
          have bp588326 : gB p588326 0 1 := (hB588366.2.1)
          have ac588370 : (fI (F588317 q587999) 32).toInt = p588337.toInt := by rw [he588322]; rfl
          have bp588337 : gB p588337 0 8192 := (hB588366.2.2.2.2.2.2.2.1)
          refine Gp_put 23 hm588321 he588322 dr_cX17_run__71 (gk_X17 D I) (Nat.le_of_ble_eq_true rfl) wr_7_97 rfl rfl rfl (Nat.le_of_ble_eq_true rfl) (fun F588371 e588372 n588373 => ?_)
          have he588374 : F588371 q587999 = .inr (22, [.ref (γ 9 0), .ref (γ 9 1), .ref (γ 9 2), .ref (γ 9 3), .ref (γ 9 4), .ref (γ 9 5), .ref (γ 9 6), .ref (γ 9 7), .ref (γ 9 8), .int p588325, .int p588326, .int p588327, .int p588328, .int p588329, .int p588330, .ref (γ 9 15), .ref (γ 9 16), .ref (γ 9 17), .ref (γ 9 18), .ref (γ 9 19), .ref (γ 9 20), .ref (γ 9 21), .ref (γ 9 22), .int o588312, .int p588332, .int p588333, .int p588334, .int p588335, .ref q588323, .ref (γ 9 29), .int p588336, .ref (γ 9 31), .int p588337, .int p588338, .int p588339, .ref q588324]) := e588372
          have hs588375 : rStr γ [97] F587998 F588371 := rStr_put hs588320 n588373 htq587999 (by decide)
          have fq588376 : F588371 q587999 = cF (F588317 q587999) 23 (.int o588312) := by rw [he588374, he588322]; rfl
          refine G_aload_n 0 dr_cX17_run__74 rfl ?_
          have fq588377 : fI (F588371 q587999) 23 = o588312 := by rw [he588374]; rfl
          refine Gp_get 23 hm588321 he588374 dr_cX17_run__75 (gk_X17 D I) (Nat.le_of_ble_eq_true rfl) wr_7_97 rfl ?_
          have hT588378 : RS D I P587997 F588371 γ el := RS_set hT588318 n588373 htq587999 (by decide) ⟨q588323, q588324, p588325, p588326, p588327, p588328, p588329, p588330, o588312, p588332, p588333, p588334, p588335, p588336, p588337, p588338, p588339, he588374, ⟨bp588325, bp588326, (hB588366.2.2.1), (hB588366.2.2.2.1), (hB588366.2.2.2.2.1), (hB588366.2.2.2.2.2.1), (hB588366.2.2.2.2.2.2.1), bp588337, (hB588366.2.2.2.2.2.2.2.2)⟩, ht588340, ht588341, ht588342, ht588343, ht588344, ht588345, ht588346, ht588347, ht588348, ht588349, ht588350, ht588351, ht588352, ht588353, ht588354, ht588355, ht588356, ht588357, ht588358, ht588359, ht588360, ht588361, ht588362, ht588363, hB588367⟩
          have ac588379 : (fI (F588371 q587999) 9).toInt = p588325.toInt := by rw [he588374]; rfl
          have ac588380 : (fI (F588371 q587999) 10).toInt = p588326.toInt := by rw [he588374]; rfl
          have ac588381 : (fI (F588371 q587999) 32).toInt = p588337.toInt := by rw [he588374]; rfl
          exact G_iretA dr_cX17_run__78 rfl (Nat.le_of_ble_eq_true rfl) (Nat.le_of_ble_eq_true rfl) ⟨F588371, o588312, rfl, rfl, hT588378, hs588375, (Nat.le_of_ble_eq_true rfl), (Nat.le_of_ble_eq_true rfl), bo588312, (by omega), (by omega), (by omega), (fun R c1 c2 c3 c4 c5 c6 => c4 F588059 p588010 o588312 F588317 F588371 n588061 fq588064 r588138 r588140 r588298 fq588299 r588301 fq588302 bo588312 hT588318 hs588319 x588313 x588314 x588315 ht588316 n588373 fq588376 fq588377)⟩
        · have r588382 : p588010.toInt = 0 := gj_eq hc588300 (show Int32.toInt 0 = 0 by decide)
          have bp588010' : gB p588010 0 0 := gB_t0 r588382
          refine G_goto 44 dr_cX17_run__34 (by decide +kernel) ?_
          refine G_aload_n 0 dr_cX17_run__44 rfl ?_
          refine G_iconst 2 dr_cX17_run__45 (by decide +kernel) ?_
          have hT588383 : RS D I P587997 F588059 γ el := RS_set hT n588061 htq587999 (by decide) ⟨q588007, q588008, p588009, p588010, p588011, p588012, p588013, p588014, p588015, p588016, p588017, p588018, p588019, 0, p588021, p588022, p588023, he588062, ⟨bp588009, (gB_w bp588010' (by decide) (by decide)), (hB588050.2.2.1), (hB588050.2.2.2.1), (hB588050.2.2.2.2.1), (hB588050.2.2.2.2.2.1), (hB588050.2.2.2.2.2.2.1), bp588021, (hB588050.2.2.2.2.2.2.2.2)⟩, ht588024, ht588025, ht588026, ht588027, ht588028, ht588029, ht588030, ht588031, ht588032, ht588033, ht588034, ht588035, ht588036, ht588037, ht588038, ht588039, ht588040, ht588041, ht588042, ht588043, ht588044, ht588045, ht588046, ht588047, hB588051⟩
          have ac588384 : (fI (F588059 q587999) 9).toInt = p588009.toInt := by rw [he588062]; rfl
          have ac588385 : (fI (F588059 q587999) 10).toInt = p588010.toInt := by rw [he588062]; rfl
          have ac588386 : (fI (F588059 q587999) 32).toInt = p588021.toInt := by rw [he588062]; rfl
          refine Gw_callV (As := [.int 2]) (gV_ok D I) (ct_581027_SpillForgeModel_no l hl0 D I γ el P587997 F588059 q587999 2 hT588383 htq587999) dr_cX17_run__46 ⟨wr_7_191, wr_1_14, wr_7_194, by decide, rfl, (Nat.le_of_ble_eq_true rfl), (Nat.le_of_ble_eq_true rfl)⟩ wr_7_193 wr_p_73 hm588005 he588062 rfl (show 0 + 0 ≤ 0 by first | omega | decide) (show 0 + 0 ≤ 0 by first | omega | decide) (Nat.le_of_ble_eq_true rfl) (fun r588390 w588391 dc588387 ds588388 hp588389 => ?_) (fun _ _ _ _ _ z => z.elim)
          obtain ⟨F588397, rfl, rfl, hT588398, hs588399, hdc, hds, x588392, x588393, x588394, x588395, ht588396⟩ := hp588389
          have hs588400 : rStr γ [97] F587998 F588397 := rStr_tr hs588063 (rStr_w hs588399 (by decide))
          rw [show Int32.toInt 2 = 2 from by decide] at x588395
          change G _ _ _ _ _ _ _ (.int 0 :: _) _ _ _
          refine G_widen (cs' := 0) (sl' := 0) (by omega) (by omega) ?_
          have hm588401 : q587999 ∈ P587997 := RS_m hT588398 htq587999 (by decide)
          refine rk10_e (show rk_10 γ (F588397 q587999) from RS_o hT588398 htq587999) (fun q588403 q588404 p588405 p588406 p588407 p588408 p588409 p588410 p588411 p588412 p588413 p588414 p588415 p588416 p588417 p588418 p588419 he588402 hB588446 ht588420 ht588421 ht588422 ht588423 ht588424 ht588425 ht588426 ht588427 ht588428 ht588429 ht588430 ht588431 ht588432 ht588433 ht588434 ht588435 ht588436 ht588437 ht588438 ht588439 ht588440 ht588441 ht588442 ht588443 hB588447 => ?_)
          have ac588448 : (fI (F588397 q587999) 9).toInt = p588405.toInt := by rw [he588402]; rfl
          have bp588405 : gB p588405 0 1 := (hB588446.1)
          have ac588449 : (fI (F588397 q587999) 10).toInt = p588406.toInt := by rw [he588402]; rfl
          have bp588406 : gB p588406 0 1 := (hB588446.2.1)
          have ac588450 : (fI (F588397 q587999) 32).toInt = p588417.toInt := by rw [he588402]; rfl
          have bp588417 : gB p588417 0 8192 := (hB588446.2.2.2.2.2.2.2.1)
          have ac588451 : (fI (F588397 q587999) 9).toInt = p588405.toInt := by rw [he588402]; rfl
          have ac588452 : (fI (F588397 q587999) 10).toInt = p588406.toInt := by rw [he588402]; rfl
          have ac588453 : (fI (F588397 q587999) 32).toInt = p588417.toInt := by rw [he588402]; rfl
          exact G_iretA dr_cX17_run__49 rfl (Nat.le_of_ble_eq_true rfl) (Nat.le_of_ble_eq_true rfl) ⟨F588397, 0, rfl, rfl, hT588398, hs588400, (Nat.le_of_ble_eq_true rfl), (Nat.le_of_ble_eq_true rfl), (gB_w (gBl (show Int32.toInt 0 = 0 by decide)) (by decide) (by decide)), (by have qa0 : Int32.toInt 0 = 0 := (by decide); omega), (by have qa0 : Int32.toInt 0 = 0 := (by decide); omega), (by have qa0 : Int32.toInt 0 = 0 := (by decide); omega), (fun R c1 c2 c3 c4 c5 c6 => c5 F588059 p588010 F588397 n588061 fq588064 r588138 r588140 r588298 fq588299 r588382 hT588398 hs588399 x588392 x588393 x588394 x588395 ht588396)⟩
    · have r588454 : 100000 < p588001.toInt := gj_nle hc588139 (show Int32.toInt 100000 = 100000 by decide)
      have bp588001'' : gB p588001 100001 2147483647 := ⟨by omega, by omega⟩
      refine G_aload_n 0 dr_cX17_run__17 rfl ?_
      refine G_iconst 1 dr_cX17_run__18 (by decide +kernel) ?_
      have hT588455 : RS D I P587997 F588059 γ el := RS_set hT n588061 htq587999 (by decide) ⟨q588007, q588008, p588009, p588010, p588011, p588012, p588013, p588014, p588015, p588016, p588017, p588018, p588019, 0, p588021, p588022, p588023, he588062, ⟨bp588009, bp588010, (hB588050.2.2.1), (hB588050.2.2.2.1), (hB588050.2.2.2.2.1), (hB588050.2.2.2.2.2.1), (hB588050.2.2.2.2.2.2.1), bp588021, (hB588050.2.2.2.2.2.2.2.2)⟩, ht588024, ht588025, ht588026, ht588027, ht588028, ht588029, ht588030, ht588031, ht588032, ht588033, ht588034, ht588035, ht588036, ht588037, ht588038, ht588039, ht588040, ht588041, ht588042, ht588043, ht588044, ht588045, ht588046, ht588047, hB588051⟩
      have ac588456 : (fI (F588059 q587999) 9).toInt = p588009.toInt := by rw [he588062]; rfl
      have ac588457 : (fI (F588059 q587999) 10).toInt = p588010.toInt := by rw [he588062]; rfl
      have ac588458 : (fI (F588059 q587999) 32).toInt = p588021.toInt := by rw [he588062]; rfl
      refine Gw_callV (As := [.int 1]) (gV_ok D I) (ct_581027_SpillForgeModel_no l hl0 D I γ el P587997 F588059 q587999 1 hT588455 htq587999) dr_cX17_run__19 ⟨wr_7_191, wr_1_14, wr_7_194, by decide, rfl, (Nat.le_of_ble_eq_true rfl), (Nat.le_of_ble_eq_true rfl)⟩ wr_7_193 wr_p_73 hm588005 he588062 rfl (show 0 + 0 ≤ 0 by first | omega | decide) (show 0 + 0 ≤ 0 by first | omega | decide) (Nat.le_of_ble_eq_true rfl) (fun r588462 w588463 dc588459 ds588460 hp588461 => ?_) (fun _ _ _ _ _ z => z.elim)
      obtain ⟨F588469, rfl, rfl, hT588470, hs588471, hdc, hds, x588464, x588465, x588466, x588467, ht588468⟩ := hp588461
      have hs588472 : rStr γ [97] F587998 F588469 := rStr_tr hs588063 (rStr_w hs588471 (by decide))
      rw [show Int32.toInt 1 = 1 from by decide] at x588467
      change G _ _ _ _ _ _ _ (.int 0 :: _) _ _ _
      refine G_widen (cs' := 0) (sl' := 0) (by omega) (by omega) ?_
      have hm588473 : q587999 ∈ P587997 := RS_m hT588470 htq587999 (by decide)
      refine rk10_e (show rk_10 γ (F588469 q587999) from RS_o hT588470 htq587999) (fun q588475 q588476 p588477 p588478 p588479 p588480 p588481 p588482 p588483 p588484 p588485 p588486 p588487 p588488 p588489 p588490 p588491 he588474 hB588518 ht588492 ht588493 ht588494 ht588495 ht588496 ht588497 ht588498 ht588499 ht588500 ht588501 ht588502 ht588503 ht588504 ht588505 ht588506 ht588507 ht588508 ht588509 ht588510 ht588511 ht588512 ht588513 ht588514 ht588515 hB588519 => ?_)
      have ac588520 : (fI (F588469 q587999) 9).toInt = p588477.toInt := by rw [he588474]; rfl
      have bp588477 : gB p588477 0 1 := (hB588518.1)
      have ac588521 : (fI (F588469 q587999) 10).toInt = p588478.toInt := by rw [he588474]; rfl
      have bp588478 : gB p588478 0 1 := (hB588518.2.1)
      have ac588522 : (fI (F588469 q587999) 32).toInt = p588489.toInt := by rw [he588474]; rfl
      have bp588489 : gB p588489 0 8192 := (hB588518.2.2.2.2.2.2.2.1)
      have ac588523 : (fI (F588469 q587999) 9).toInt = p588477.toInt := by rw [he588474]; rfl
      have ac588524 : (fI (F588469 q587999) 10).toInt = p588478.toInt := by rw [he588474]; rfl
      have ac588525 : (fI (F588469 q587999) 32).toInt = p588489.toInt := by rw [he588474]; rfl
      exact G_iretA dr_cX17_run__22 rfl (Nat.le_of_ble_eq_true rfl) (Nat.le_of_ble_eq_true rfl) ⟨F588469, 0, rfl, rfl, hT588470, hs588472, (Nat.le_of_ble_eq_true rfl), (Nat.le_of_ble_eq_true rfl), (gB_w (gBl (show Int32.toInt 0 = 0 by decide)) (by decide) (by decide)), (by have qa0 : Int32.toInt 0 = 0 := (by decide); omega), (by have qa0 : Int32.toInt 0 = 0 := (by decide); omega), (by have qa0 : Int32.toInt 0 = 0 := (by decide); omega), (fun R c1 c2 c3 c4 c5 c6 => c6 F588059 F588469 n588061 fq588064 r588138 r588454 hT588470 hs588471 x588464 x588465 x588466 x588467 ht588468)⟩
/- tl_RModel_colourCount_13: l2, l1; out: l1 -/
def tl_RModel_colourCount_13 (D : va_G) (I : FieldType → ClassId) (γ el : Nat → Nat → Nat) (c1 : Nat → va_E) (q0 : Nat) (s1 : Int32) (s2 : Int32) (k : Nat) (e1 : Int32) : Prop := ∀ R : (Int32) → (Int32) → Nat → (Int32) → Prop,
  (∀ (l2_1 : Int32) (l1_1 : Int32), gB l2_1 0 2000 → 2000 ≤ l2_1.toInt → R l2_1 l1_1 43 l1_1) →
  (∀ (l2_1 : Int32) (l1_1 : Int32) (x1 : Nat → Int32) (x2 : Int32) (x3 : Int32) (x4 : Int32) (k : Nat) (e1 : Int32), gB l2_1 0 2000 → l2_1.toInt < 2000 → fR (c1 q0) 3 = (γ 9 3) → c1 (γ 9 3) = .inl (I .boolean, 2000, .inl x1) → x2 = x1 l2_1.toNatClampNeg → gB x2 0 1 → x2.toInt = 0 → x3.toInt = l1_1.toInt + 0 → x4.toInt = l2_1.toInt + 1 → R x4 x3 k e1 → R l2_1 l1_1 k e1) →
  (∀ (l2_1 : Int32) (l1_1 : Int32) (x1 : Nat → Int32) (x2 : Int32) (x3 : Int32) (x4 : Int32) (k : Nat) (e1 : Int32), gB l2_1 0 2000 → l2_1.toInt < 2000 → fR (c1 q0) 3 = (γ 9 3) → c1 (γ 9 3) = .inl (I .boolean, 2000, .inl x1) → x2 = x1 l2_1.toNatClampNeg → gB x2 0 1 → x2.toInt ≠ 0 → x3 = l1_1 + (1 : Int32) → x4.toInt = l2_1.toInt + 1 → R x4 x3 k e1 → R l2_1 l1_1 k e1) →
  R s1 s2 k e1
/- tr_RModel_colourCount: result, F -/
def tr_RModel_colourCount (D : va_G) (I : FieldType → ClassId) (γ el : Nat → Nat → Nat) (P : List Nat) (F : Nat → va_E) (q0 : Nat) (o1 : Int32) (o2 : Nat → va_E) : Prop := ∀ R : (Int32) → (Nat → va_E) → Prop,
  (∀ (x1 : Nat → va_E) (x2 : Int32), fR (F q0) 7 = (γ 9 7) → RS D I P x1 γ el → rStr γ [] F x1 → (gIp ((0 : Int) = 0) (rGr γ el F (γ 9 7) (γ 6 (γ 1 (γ 9 7))) (cB (x1 (γ 9 3))) (vA (γ 6 (γ 1 (γ 9 7)))))) → (x1 q0 = F q0) → tr_RModel_graph D I γ el P F q0 (γ 9 7) (0 : Int32) x1 → tl_RModel_colourCount_13 D I γ el x1 q0 (0 : Int32) (0 : Int32) 43 x2 → R x2 x1) →
  R o1 o2
abbrev ky_588755_SpillForgeModel_colourCount : gKey := (cX17_colourCount, 3, "SpillForgeModel", (some FieldType.int), [], "colourCount", fun _ _ => True)
def pt_588755_SpillForgeModel_colourCount (D : va_G) (I : FieldType → ClassId) (γ el : Nat → Nat → Nat) (P588751 : List Nat) (F588752 : Nat → va_E) (q588753 : Nat) : Option Value → va_W → Nat → Nat → Prop := fun r w dc ds => ∃ (F589010 : Nat → va_E) (o589009 : Int32), r = some (.int o589009) ∧ w = va_pl P588751 F589010 ∧ RS D I P588751 F589010 γ el ∧ rStr γ [] F588752 F589010 ∧ dc ≤ 0 ∧ ds ≤ 0 ∧ (F589010 q588753 = F588752 q588753) ∧ tr_RModel_colourCount D I γ el P588751 F588752 q588753 o589009 F589010
set_option maxRecDepth 100000 in
set_option maxHeartbeats 4000000 in
theorem ct_588755_SpillForgeModel_colourCount (l : Launch) (hl0 : l.stackTraces = false) (D : va_G) (I : FieldType → ClassId) (γ el : Nat → Nat → Nat) (P588751 : List Nat) (F588752 : Nat → va_E) (q588753 : Nat) (hT : RS D I P588751 F588752 γ el) (htq588753 : rKd γ q588753 10) (x588754 : 0 < γ 6 1) : CtA (gV D I) l yX17_colourCount cX17_colourCount 3 (some FieldType.int) 6 141 0 0 [.ref q588753] (va_pl P588751 F588752) (pt_588755_SpillForgeModel_colourCount D I γ el P588751 F588752 q588753) gNA := by
  refine CtA_of hl0 (by decide) (Nat.le_of_ble_eq_true rfl) ?_
  have hm588756 : q588753 ∈ P588751 := RS_m hT htq588753 (by decide)
  refine rk10_e (show rk_10 γ (F588752 q588753) from RS_o hT htq588753) (fun q588758 q588759 p588760 p588761 p588762 p588763 p588764 p588765 p588766 p588767 p588768 p588769 p588770 p588771 p588772 p588773 p588774 he588757 hB588801 ht588775 ht588776 ht588777 ht588778 ht588779 ht588780 ht588781 ht588782 ht588783 ht588784 ht588785 ht588786 ht588787 ht588788 ht588789 ht588790 ht588791 ht588792 ht588793 ht588794 ht588795 ht588796 ht588797 ht588798 hB588802 => ?_)
  have fq588803 : γ 6 (γ 1 (γ 9 6)) = γ 6 0 := by rw [show γ 1 (γ 9 6) = 0 from ht588796]
  have fq588804 : γ 6 (γ 1 (γ 9 7)) = γ 6 1 := by rw [show γ 1 (γ 9 7) = 1 from ht588797]
  have fq588805 : γ 6 (γ 1 (γ 9 8)) = γ 6 2 := by rw [show γ 1 (γ 9 8) = 2 from ht588798]
  have r588806 : p588774.toInt ≤ γ 12 q588759 := by have z := hB588802; unfold rM2 at z; exact z.2.2
  refine G_iconst 0 dr_cX17_colourCount_0 (by decide +kernel) ?_
  refine G_istore_n (L' := [(1, .int 0), (0, .ref q588753)]) dr_cX17_colourCount_1 (Nat.le_of_ble_eq_true rfl) rfl ?_
  refine G_aload_n 1 dr_cX17_colourCount_2 rfl ?_
  refine G_aload_n 1 dr_cX17_colourCount_3 rfl ?_
  have fq588807 : fR (F588752 q588753) 7 = (γ 9 7) := by rw [he588757]; rfl
  refine Gp_get 7 hm588756 he588757 dr_cX17_colourCount_4 (gk_X17 D I) (Nat.le_of_ble_eq_true rfl) wr_7_81 rfl ?_
  refine G_iconst 0 dr_cX17_colourCount_7 (by decide +kernel) ?_
  refine Gw_callV (As := [.ref (γ 9 7), .int 0]) (gV_ok D I) (ct_277563_SpillForgeModel_graph l hl0 D I γ el P588751 F588752 q588753 (γ 9 7) 0 hT htq588753 ht588784 (gB_w (gBl (show Int32.toInt 0 = 0 by decide)) (by decide) (by decide)) (by have qa0 : Int32.toInt 0 = 0 := (by decide); omega)) dr_cX17_colourCount_8 ⟨wr_10_233, wr_1_14, wr_10_236, by decide, rfl, (Nat.le_of_ble_eq_true rfl), (Nat.le_of_ble_eq_true rfl)⟩ wr_10_235 wr_p_99 hm588756 he588757 rfl (show 0 + 0 ≤ 0 by first | omega | decide) (show 0 + 0 ≤ 0 by first | omega | decide) (Nat.le_of_ble_eq_true rfl) (fun r588811 w588812 dc588808 ds588809 hp588810 => ?_) (fun _ _ _ _ _ z => z.elim)
  obtain ⟨F588816, rfl, rfl, hT588817, hs588818, hdc, hds, x588813, x588814, ht588815⟩ := hp588810
  have hs588819 : rStr γ [] F588752 F588816 := rStr_tr (rStr_rf (γ := γ) (W := []) (F := F588752)) hs588818
  have kp588820 : F588816 q588753 = F588752 q588753 := x588814
  have he588821 : F588816 q588753 = .inr (22, [.ref (γ 9 0), .ref (γ 9 1), .ref (γ 9 2), .ref (γ 9 3), .ref (γ 9 4), .ref (γ 9 5), .ref (γ 9 6), .ref (γ 9 7), .ref (γ 9 8), .int p588760, .int p588761, .int p588762, .int p588763, .int p588764, .int p588765, .ref (γ 9 15), .ref (γ 9 16), .ref (γ 9 17), .ref (γ 9 18), .ref (γ 9 19), .ref (γ 9 20), .ref (γ 9 21), .ref (γ 9 22), .int p588766, .int p588767, .int p588768, .int p588769, .int p588770, .ref q588758, .ref (γ 9 29), .int p588771, .ref (γ 9 31), .int p588772, .int p588773, .int p588774, .ref q588759]) := (x588814).trans he588757
  rw [show Int32.toInt 0 = 0 from by decide] at x588813
  change G _ _ _ _ _ _ _ _ _ _ _
  refine G_widen (cs' := 0) (sl' := 0) (by omega) (by omega) ?_
  refine G_iconst 0 dr_cX17_colourCount_11 (by decide +kernel) ?_
  refine G_istore_n (L' := [(2, .int 0), (1, .int 0), (0, .ref q588753)]) dr_cX17_colourCount_12 (Nat.le_of_ble_eq_true rfl) rfl ?_
  have hlp13_588991 : ∀ (n13_588991 : Nat) (g588990 : Int32) (g588991 : Int32), gB g588990 0 2000 → (∀ (k : Nat) (e1 : Int32), tl_RModel_colourCount_13 D I γ el F588816 q588753 g588990 g588991 k e1 → tl_RModel_colourCount_13 D I γ el F588816 q588753 (0 : Int32) (0 : Int32) k e1) → ((2001 : Int) - g588990.toInt).toNat < n13_588991 → G (gV D I) l (gRm 6 141 0 0) (gMA (gV D I) (pt_588755_SpillForgeModel_colourCount D I γ el P588751 F588752 q588753) gNA 0 0) ky_588755_SpillForgeModel_colourCount 13 [(2, .int g588990), (1, .int g588991), (0, .ref q588753)] [] (va_pl P588751 F588816) 0 0 := by
    intro n13_588991
    induction n13_588991 with
    | zero => intro g588990 g588991 bg588990 kt13_588992 hm13_588991; exact absurd hm13_588991 (Nat.not_lt_zero _)
    | succ n13_588991 ih13_588991 =>
      intro g588990 g588991 bg588990 kt13_588992 hm13_588991
      have bg588991 := gB_any g588991
      refine G_iload_n 0 dr_cX17_colourCount_13 rfl ?_
      refine G_sipush 2000 dr_cX17_colourCount_14 (by decide +kernel) ?_
      refine G_icmp_ge 43 dr_cX17_colourCount_17 (by decide +kernel) (fun hc588993 => ?_) (fun hc588993 => ?_)
      · have r588994 : 2000 ≤ g588990.toInt := gj_leL hc588993 (show Int32.toInt 2000 = 2000 by decide)
        have bg588990' : gB g588990 2000 2000 := ⟨by omega, by omega⟩
        have hx588995 : tl_RModel_colourCount_13 D I γ el F588816 q588753 (0 : Int32) (0 : Int32) 43 g588991 := kt13_588992 43 g588991 (fun R c1 c2 c3 => c1 g588990 g588991 bg588990 r588994)
        refine G_iload_n 1 dr_cX17_colourCount_43 rfl ?_
        exact G_iretA dr_cX17_colourCount_44 rfl (Nat.le_of_ble_eq_true rfl) (Nat.le_of_ble_eq_true rfl) ⟨F588816, g588991, rfl, rfl, hT588817, hs588819, (Nat.le_of_ble_eq_true rfl), (Nat.le_of_ble_eq_true rfl), kp588820, (fun R c1 => c1 F588816 g588991 fq588807 hT588817 hs588818 x588813 x588814 ht588815 hx588995)⟩
      · have r588996 : g588990.toInt < 2000 := gj_nleL hc588993 (show Int32.toInt 2000 = 2000 by decide)
        have bg588990' : gB g588990 0 1999 := ⟨by omega, by omega⟩
        refine G_iload_n 1 dr_cX17_colourCount_20 rfl ?_
        refine G_aload_n 2 dr_cX17_colourCount_21 rfl ?_
        have fq588997 : fR (F588816 q588753) 3 = (γ 9 3) := by rw [he588821]; rfl
        refine Gp_get 3 hm588756 he588821 dr_cX17_colourCount_22 (gk_X17 D I) (Nat.le_of_ble_eq_true rfl) wr_7_77 rfl ?_
        refine G_iload_n 0 dr_cX17_colourCount_25 rfl ?_
        have hm588998 : (γ 9 3) ∈ P588751 := RS_m hT588817 ht588780 (by decide)
        obtain ⟨f589000, he588999, bf589000⟩ := show rk_14 I (F588816 (γ 9 3)) from RS_o hT588817 ht588780
        refine Gp_zald 3 hm588998 he588999 dr_cX17_colourCount_26 rfl (gB_in bg588990' (by decide) (by decide)) (G_nam fun z589001 hz589001 => ?_)
        have bz589001 : gB z589001 0 1 := by rw [hz589001]; exact bf589000 _
        refine G_if_eq 34 dr_cX17_colourCount_27 (by decide +kernel) (fun hc589002 => ?_) (fun hc589002 => ?_)
        · have r589003 : z589001.toInt = 0 := gj_eq hc589002 (show Int32.toInt 0 = 0 by decide)
          have bz589001' : gB z589001 0 0 := gB_t0 r589003
          refine G_iconst 0 dr_cX17_colourCount_34 (by decide +kernel) ?_
          refine G_iadd dr_cX17_colourCount_35 (G_nam fun z589004 hz589004 => ?_)
          have ez589004 : z589004.toInt = g588991.toInt + 0 := by rw [gI_add hz589004 bg588991 (gBl (show Int32.toInt 0 = 0 by decide)) (by decide) (by decide), show Int32.toInt 0 = 0 from by decide]
          have bz589004 : gB z589004 (-2147483648) 2147483647 := gB_add (gI_add hz589004 bg588991 (gBl (show Int32.toInt 0 = 0 by decide)) (by decide) (by decide)) bg588991 (gBl (show Int32.toInt 0 = 0 by decide)) (by decide) (by decide)
          refine G_istore_n (L' := [(1, .int z589004), (2, .int g588990), (0, .ref q588753)]) dr_cX17_colourCount_36 (Nat.le_of_ble_eq_true rfl) rfl ?_
          obtain ⟨z589005, hz589005⟩ : ∃ z : Int32, z = g588990 + Int32.ofInt 1 := ⟨_, rfl⟩
          have ez589005 : z589005.toInt = g588990.toInt + 1 := gI_inc hz589005 (by decide) bg588990' (by decide) (by decide)
          have bz589005 : gB z589005 1 2000 := ⟨by omega, by omega⟩
          refine G_iinc (L' := [(2, .int z589005), (1, .int z589004), (0, .ref q588753)]) z589005 1 dr_cX17_colourCount_37 rfl hz589005.symm (Nat.le_of_ble_eq_true rfl) rfl ?_
          refine G_goto 13 dr_cX17_colourCount_40 (by decide +kernel) ?_
          exact ih13_588991 z589005 z589004 (gB_w bz589005 (by decide) (by decide)) (fun k e1 ht => kt13_588992 k e1 (fun R c1 c2 c3 => c2 g588990 g588991 f589000 z589001 z589004 z589005 k e1 bg588990 r588996 fq588997 he588999 hz589001 bz589001 r589003 ez589004 ez589005 (ht R c1 c2 c3))) (mz_up ez589005 (Int.le_trans bg588990'.2 (by decide)) hm13_588991)
        · have r589006 : z589001.toInt ≠ 0 := gj_neq hc589002 (show Int32.toInt 0 = 0 by decide)
          have bz589001' : gB z589001 1 1 := gB_t1 bz589001 r589006
          refine G_iconst 1 dr_cX17_colourCount_30 (by decide +kernel) ?_
          refine G_goto 35 dr_cX17_colourCount_31 (by decide +kernel) ?_
          refine G_iadd dr_cX17_colourCount_35 (G_nam fun z589007 hz589007 => ?_)
          have bz589007 : gB z589007 (-2147483648) 2147483647 := gB_any z589007
          refine G_istore_n (L' := [(1, .int z589007), (2, .int g588990), (0, .ref q588753)]) dr_cX17_colourCount_36 (Nat.le_of_ble_eq_true rfl) rfl ?_
          obtain ⟨z589008, hz589008⟩ : ∃ z : Int32, z = g588990 + Int32.ofInt 1 := ⟨_, rfl⟩
          have ez589008 : z589008.toInt = g588990.toInt + 1 := gI_inc hz589008 (by decide) bg588990' (by decide) (by decide)
          have bz589008 : gB z589008 1 2000 := ⟨by omega, by omega⟩
          refine G_iinc (L' := [(2, .int z589008), (1, .int z589007), (0, .ref q588753)]) z589008 1 dr_cX17_colourCount_37 rfl hz589008.symm (Nat.le_of_ble_eq_true rfl) rfl ?_
          refine G_goto 13 dr_cX17_colourCount_40 (by decide +kernel) ?_
          exact ih13_588991 z589008 z589007 (gB_w bz589008 (by decide) (by decide)) (fun k e1 ht => kt13_588992 k e1 (fun R c1 c2 c3 => c3 g588990 g588991 f589000 z589001 z589007 z589008 k e1 bg588990 r588996 fq588997 he588999 hz589001 bz589001 r589006 hz589007 ez589008 (ht R c1 c2 c3))) (mz_up ez589008 (Int.le_trans bg588990'.2 (by decide)) hm13_588991)
  exact hlp13_588991 (((2001 : Int) - 0).toNat + 1) 0 0 (gB_w (gBl (show Int32.toInt 0 = 0 by decide)) (by decide) (by decide)) (fun k e1 ht => ht) (Nat.lt_succ_self _)
/- tr_RModel_count2: result, F -/
def tr_RModel_count2 (D : va_G) (I : FieldType → ClassId) (γ el : Nat → Nat → Nat) (P : List Nat) (F : Nat → va_E) (q0 : Nat) (a1 : Int32) (o1 : Int32) (o2 : Nat → va_E) : Prop := ∀ R : (Int32) → (Nat → va_E) → Prop,
  (∀ (x1 : Nat → va_E) (x2 : Int32), (∀ b, b ≠ q0 → x1 b = F b) → x1 q0 = cF (F q0) 30 (.int 0) → a1.toInt = 0 → fI (x1 q0) 9 = x2 → x2.toInt = 0 → R (0 : Int32) x1) →
  (∀ (x1 : Nat → va_E) (x2 : Int32) (x3 : Int32), (∀ b, b ≠ q0 → x1 b = F b) → x1 q0 = cF (F q0) 30 (.int 0) → a1.toInt = 0 → fI (x1 q0) 9 = x2 → x2.toInt ≠ 0 → fR (x1 q0) 6 = (γ 9 6) → fI (x1 (γ 9 6)) 3 = x3 → R x3 x1) →
  (∀ (x1 : Nat → va_E) (x2 : Int32), (∀ b, b ≠ q0 → x1 b = F b) → x1 q0 = cF (F q0) 30 (.int 0) → a1.toInt = 1 → fI (x1 q0) 9 = x2 → x2.toInt = 0 → R (0 : Int32) x1) →
  (∀ (x1 : Nat → va_E) (x2 : Int32) (x3 : Int32), (∀ b, b ≠ q0 → x1 b = F b) → x1 q0 = cF (F q0) 30 (.int 0) → a1.toInt = 1 → fI (x1 q0) 9 = x2 → x2.toInt ≠ 0 → fR (x1 q0) 6 = (γ 9 6) → tr_RCode_countRows D I γ el x1 (γ 9 6) x3 → R x3 x1) →
  (∀ (x1 : Nat → va_E) (x2 : Int32), (∀ b, b ≠ q0 → x1 b = F b) → x1 q0 = cF (F q0) 30 (.int 0) → a1.toInt = 2 → fI (x1 q0) 33 = x2 → R x2 x1) →
  (∀ (x1 : Nat → va_E) (x2 : Int32), (∀ b, b ≠ q0 → x1 b = F b) → x1 q0 = cF (F q0) 30 (.int 0) → a1.toInt = 3 → fI (x1 q0) 32 = x2 → R x2 x1) →
  (∀ (x1 : Nat → va_E) (x2 : Int32), (∀ b, b ≠ q0 → x1 b = F b) → x1 q0 = cF (F q0) 30 (.int 0) → a1.toInt = 4 → fI (x1 q0) 34 = x2 → R x2 x1) →
  (∀ (x1 : Nat → va_E) (x2 : Int32), (∀ b, b ≠ q0 → x1 b = F b) → x1 q0 = cF (F q0) 30 (.int 0) → a1.toInt = 5 → fI (x1 q0) 10 = x2 → x2.toInt = 0 → R (0 : Int32) x1) →
  (∀ (x1 : Nat → va_E) (x2 : Int32) (x3 : Int32), (∀ b, b ≠ q0 → x1 b = F b) → x1 q0 = cF (F q0) 30 (.int 0) → a1.toInt = 5 → fI (x1 q0) 10 = x2 → x2.toInt ≠ 0 → fR (x1 q0) 7 = (γ 9 7) → tr_RCode_countRows D I γ el x1 (γ 9 7) x3 → R x3 x1) →
  (∀ (x1 : Nat → va_E) (x2 : Int32), (∀ b, b ≠ q0 → x1 b = F b) → x1 q0 = cF (F q0) 30 (.int 0) → a1.toInt = 6 → fI (x1 q0) 10 = x2 → x2.toInt = 0 → R (0 : Int32) x1) →
  (∀ (x1 : Nat → va_E) (x2 : Int32) (x3 : Int32) (x4 : Nat → va_E), (∀ b, b ≠ q0 → x1 b = F b) → x1 q0 = cF (F q0) 30 (.int 0) → a1.toInt = 6 → fI (x1 q0) 10 = x2 → x2.toInt ≠ 0 → RS D I P x4 γ el → rStr γ [] x1 x4 → (x4 q0 = x1 q0) → tr_RModel_colourCount D I γ el P x1 q0 x3 x4 → R x3 x4) →
  (∀ (x1 : Nat → va_E) (x2 : Int32), (∀ b, b ≠ q0 → x1 b = F b) → x1 q0 = cF (F q0) 30 (.int 0) → a1.toInt = 7 → fI (x1 q0) 10 = x2 → x2.toInt = 0 → R (0 : Int32) x1) →
  (∀ (x1 : Nat → va_E) (x2 : Int32) (x3 : Int32), (∀ b, b ≠ q0 → x1 b = F b) → x1 q0 = cF (F q0) 30 (.int 0) → a1.toInt = 7 → fI (x1 q0) 10 = x2 → x2.toInt ≠ 0 → fI (x1 q0) 11 = x3 → R x3 x1) →
  (∀ (x1 : Nat → va_E) (x2 : Int32), (∀ b, b ≠ q0 → x1 b = F b) → x1 q0 = cF (F q0) 30 (.int 0) → a1.toInt = 8 → fI (x1 q0) 10 = x2 → x2.toInt = 0 → R (0 : Int32) x1) →
  (∀ (x1 : Nat → va_E) (x2 : Int32) (x3 : Int32), (∀ b, b ≠ q0 → x1 b = F b) → x1 q0 = cF (F q0) 30 (.int 0) → a1.toInt = 8 → fI (x1 q0) 10 = x2 → x2.toInt ≠ 0 → fI (x1 q0) 12 = x3 → R x3 x1) →
  (∀ (x1 : Nat → va_E) (x2 : Int32), (∀ b, b ≠ q0 → x1 b = F b) → x1 q0 = cF (F q0) 30 (.int 0) → a1.toInt = 9 → fI (x1 q0) 10 = x2 → x2.toInt = 0 → R (0 : Int32) x1) →
  (∀ (x1 : Nat → va_E) (x2 : Int32) (x3 : Int32), (∀ b, b ≠ q0 → x1 b = F b) → x1 q0 = cF (F q0) 30 (.int 0) → a1.toInt = 9 → fI (x1 q0) 10 = x2 → x2.toInt ≠ 0 → fI (x1 q0) 13 = x3 → R x3 x1) →
  (∀ (x1 : Nat → va_E) (x2 : Int32), (∀ b, b ≠ q0 → x1 b = F b) → x1 q0 = cF (F q0) 30 (.int 0) → a1.toInt = 10 → fI (x1 q0) 10 = x2 → x2.toInt = 0 → R (0 : Int32) x1) →
  (∀ (x1 : Nat → va_E) (x2 : Int32) (x3 : Int32), (∀ b, b ≠ q0 → x1 b = F b) → x1 q0 = cF (F q0) 30 (.int 0) → a1.toInt = 10 → fI (x1 q0) 10 = x2 → x2.toInt ≠ 0 → fR (x1 q0) 7 = (γ 9 7) → tr_RCode_count D I γ el x1 (γ 9 7) (21 : Int32) x3 → R x3 x1) →
  (∀ (x1 : Nat → va_E) (x2 : Int32), (∀ b, b ≠ q0 → x1 b = F b) → x1 q0 = cF (F q0) 30 (.int 0) → a1.toInt = 11 → fI (x1 q0) 10 = x2 → x2.toInt = 0 → R (0 : Int32) x1) →
  (∀ (x1 : Nat → va_E) (x2 : Int32) (x3 : Int32), (∀ b, b ≠ q0 → x1 b = F b) → x1 q0 = cF (F q0) 30 (.int 0) → a1.toInt = 11 → fI (x1 q0) 10 = x2 → x2.toInt ≠ 0 → fR (x1 q0) 7 = (γ 9 7) → tr_RCode_count D I γ el x1 (γ 9 7) (23 : Int32) x3 → R x3 x1) →
  (∀ (x1 : Nat → va_E) (x2 : Nat → va_E), (∀ b, b ≠ q0 → x1 b = F b) → x1 q0 = cF (F q0) 30 (.int 0) → a1.toInt ≠ 0 → a1.toInt ≠ 1 → a1.toInt ≠ 2 → a1.toInt ≠ 3 → a1.toInt ≠ 4 → a1.toInt ≠ 5 → a1.toInt ≠ 6 → a1.toInt ≠ 7 → a1.toInt ≠ 8 → a1.toInt ≠ 9 → a1.toInt ≠ 10 → a1.toInt ≠ 11 → RS D I P x2 γ el → rStr γ [] x1 x2 → (fI (x2 q0) 9).toInt = (fI (x1 q0) 9).toInt → (fI (x2 q0) 10).toInt = (fI (x1 q0) 10).toInt → (fI (x2 q0) 32).toInt = (fI (x1 q0) 32).toInt → (fI (x2 q0) 30).toInt = 1 → tr_RModel_no D I γ el x1 q0 (1 : Int32) x2 → R (0 : Int32) x2) →
  R o1 o2
abbrev ky_588534_SpillForgeModel_count : gKey := (cX17_count_, 2, "SpillForgeModel", (some FieldType.int), [], "count", fun _ _ => True)
def pt_588534_SpillForgeModel_count (D : va_G) (I : FieldType → ClassId) (γ el : Nat → Nat → Nat) (P588528 : List Nat) (F588529 : Nat → va_E) (q588530 : Nat) (p588531 : Int32) : Option Value → va_W → Nat → Nat → Prop := fun r w dc ds => ∃ (F589231 : Nat → va_E) (o589230 : Int32), r = some (.int o589230) ∧ w = va_pl P588528 F589231 ∧ RS D I P588528 F589231 γ el ∧ rStr γ [] F588529 F589231 ∧ dc ≤ 0 ∧ ds ≤ 0 ∧ (fI (F589231 q588530) 9).toInt = (fI (F588529 q588530) 9).toInt ∧ (fI (F589231 q588530) 10).toInt = (fI (F588529 q588530) 10).toInt ∧ (fI (F589231 q588530) 32).toInt = (fI (F588529 q588530) 32).toInt ∧ tr_RModel_count2 D I γ el P588528 F588529 q588530 p588531 o589230 F589231
set_option maxRecDepth 100000 in
set_option maxHeartbeats 4000000 in
theorem ct_588534_SpillForgeModel_count (l : Launch) (hl0 : l.stackTraces = false) (D : va_G) (I : FieldType → ClassId) (γ el : Nat → Nat → Nat) (P588528 : List Nat) (F588529 : Nat → va_E) (q588530 : Nat) (p588531 : Int32) (hT : RS D I P588528 F588529 γ el) (htq588530 : rKd γ q588530 10) (x588532 : ((fI (F588529 q588530) 9).toInt = 0 ∨ 0 < γ 6 0)) (x588533 : ((fI (F588529 q588530) 10).toInt = 0 ∨ 0 < γ 6 1)) : CtA (gV D I) l yX17_count_ cX17_count_ 2 (some FieldType.int) 7 163 0 0 [.ref q588530, .int p588531] (va_pl P588528 F588529) (pt_588534_SpillForgeModel_count D I γ el P588528 F588529 q588530 p588531) gNA := by
  refine CtA_of hl0 (by decide) (Nat.le_of_ble_eq_true rfl) ?_
  have bp588531 := gB_any p588531
  have hm588535 : q588530 ∈ P588528 := RS_m hT htq588530 (by decide)
  refine rk10_e (show rk_10 γ (F588529 q588530) from RS_o hT htq588530) (fun q588537 q588538 p588539 p588540 p588541 p588542 p588543 p588544 p588545 p588546 p588547 p588548 p588549 p588550 p588551 p588552 p588553 he588536 hB588580 ht588554 ht588555 ht588556 ht588557 ht588558 ht588559 ht588560 ht588561 ht588562 ht588563 ht588564 ht588565 ht588566 ht588567 ht588568 ht588569 ht588570 ht588571 ht588572 ht588573 ht588574 ht588575 ht588576 ht588577 hB588581 => ?_)
  have ac588582 : (fI (F588529 q588530) 9).toInt = p588539.toInt := by rw [he588536]; rfl
  have bp588539 : gB p588539 0 1 := (hB588580.1)
  have ac588583 : (fI (F588529 q588530) 10).toInt = p588540.toInt := by rw [he588536]; rfl
  have bp588540 : gB p588540 0 1 := (hB588580.2.1)
  have ac588584 : (fI (F588529 q588530) 32).toInt = p588551.toInt := by rw [he588536]; rfl
  have bp588551 : gB p588551 0 8192 := (hB588580.2.2.2.2.2.2.2.1)
  have fq588585 : γ 6 (γ 1 (γ 9 6)) = γ 6 0 := by rw [show γ 1 (γ 9 6) = 0 from ht588575]
  have fq588586 : γ 6 (γ 1 (γ 9 7)) = γ 6 1 := by rw [show γ 1 (γ 9 7) = 1 from ht588576]
  have fq588587 : γ 6 (γ 1 (γ 9 8)) = γ 6 2 := by rw [show γ 1 (γ 9 8) = 2 from ht588577]
  have r588588 : p588553.toInt ≤ γ 12 q588538 := by have z := hB588581; unfold rM2 at z; exact z.2.2
  refine G_aload_n 0 dr_cX17_count__0 rfl ?_
  refine G_iconst 0 dr_cX17_count__1 (by decide +kernel) ?_
  refine Gp_put 30 hm588535 he588536 dr_cX17_count__2 (gk_X17 D I) (Nat.le_of_ble_eq_true rfl) wr_7_104 rfl rfl rfl (Nat.le_of_ble_eq_true rfl) (fun F588589 e588590 n588591 => ?_)
  have he588592 : F588589 q588530 = .inr (22, [.ref (γ 9 0), .ref (γ 9 1), .ref (γ 9 2), .ref (γ 9 3), .ref (γ 9 4), .ref (γ 9 5), .ref (γ 9 6), .ref (γ 9 7), .ref (γ 9 8), .int p588539, .int p588540, .int p588541, .int p588542, .int p588543, .int p588544, .ref (γ 9 15), .ref (γ 9 16), .ref (γ 9 17), .ref (γ 9 18), .ref (γ 9 19), .ref (γ 9 20), .ref (γ 9 21), .ref (γ 9 22), .int p588545, .int p588546, .int p588547, .int p588548, .int p588549, .ref q588537, .ref (γ 9 29), .int 0, .ref (γ 9 31), .int p588551, .int p588552, .int p588553, .ref q588538]) := e588590
  have hs588593 : rStr γ [] F588529 F588589 := rStr_put (rStr_rf (γ := γ) (W := []) (F := F588529)) n588591 htq588530 (by decide)
  have fq588594 : F588589 q588530 = cF (F588529 q588530) 30 (.int 0) := by rw [he588592, he588536]; rfl
  refine G_iload_n 1 dr_cX17_count__5 rfl ?_
  by_cases hs588595 : p588531 = 0
  · have ehs588595 : p588531.toInt = 0 := gj_eq hs588595 (show Int32.toInt 0 = 0 by decide)
    have bp588531' : gB p588531 0 0 := ⟨by omega, by omega⟩
    refine G_eqi (y := 0) hs588595 ?_
    refine G_tableIn 68 dr_cX17_count__6 (by decide) (by decide) (by first | rfl | decide) (by decide) ?_
    refine G_aload_n 0 dr_cX17_count__68 rfl ?_
    have fq588596 : fI (F588589 q588530) 9 = p588539 := by rw [he588592]; rfl
    refine Gp_get 9 hm588535 he588592 dr_cX17_count__69 (gk_X17 D I) (Nat.le_of_ble_eq_true rfl) wr_7_83 rfl ?_
    refine G_if_eq 85 dr_cX17_count__72 (by decide +kernel) (fun hc588597 => ?_) (fun hc588597 => ?_)
    · have r588598 : p588539.toInt = 0 := gj_eq hc588597 (show Int32.toInt 0 = 0 by decide)
      have bp588539' : gB p588539 0 0 := gB_t0 r588598
      refine G_iconst 0 dr_cX17_count__85 (by decide +kernel) ?_
      have hT588599 : RS D I P588528 F588589 γ el := RS_set hT n588591 htq588530 (by decide) ⟨q588537, q588538, p588539, p588540, p588541, p588542, p588543, p588544, p588545, p588546, p588547, p588548, p588549, 0, p588551, p588552, p588553, he588592, ⟨(gB_w bp588539' (by decide) (by decide)), bp588540, (hB588580.2.2.1), (hB588580.2.2.2.1), (hB588580.2.2.2.2.1), (hB588580.2.2.2.2.2.1), (hB588580.2.2.2.2.2.2.1), bp588551, (hB588580.2.2.2.2.2.2.2.2)⟩, ht588554, ht588555, ht588556, ht588557, ht588558, ht588559, ht588560, ht588561, ht588562, ht588563, ht588564, ht588565, ht588566, ht588567, ht588568, ht588569, ht588570, ht588571, ht588572, ht588573, ht588574, ht588575, ht588576, ht588577, hB588581⟩
      have ac588600 : (fI (F588589 q588530) 9).toInt = p588539.toInt := by rw [he588592]; rfl
      have ac588601 : (fI (F588589 q588530) 10).toInt = p588540.toInt := by rw [he588592]; rfl
      have ac588602 : (fI (F588589 q588530) 32).toInt = p588551.toInt := by rw [he588592]; rfl
      exact G_iretA dr_cX17_count__86 rfl (Nat.le_of_ble_eq_true rfl) (Nat.le_of_ble_eq_true rfl) ⟨F588589, 0, rfl, rfl, hT588599, hs588593, (Nat.le_of_ble_eq_true rfl), (Nat.le_of_ble_eq_true rfl), (by have qa0 : Int32.toInt 0 = 0 := (by decide); omega), (by have qa0 : Int32.toInt 0 = 0 := (by decide); omega), (by have qa0 : Int32.toInt 0 = 0 := (by decide); omega), (fun R c1 c2 c3 c4 c5 c6 c7 c8 c9 c10 c11 c12 c13 c14 c15 c16 c17 c18 c19 c20 c21 c22 => c1 F588589 p588539 n588591 fq588594 ehs588595 fq588596 r588598)⟩
    · have r588603 : p588539.toInt ≠ 0 := gj_neq hc588597 (show Int32.toInt 0 = 0 by decide)
      have bp588539' : gB p588539 1 1 := gB_t1 bp588539 r588603
      refine G_aload_n 0 dr_cX17_count__75 rfl ?_
      have fq588604 : fR (F588589 q588530) 6 = (γ 9 6) := by rw [he588592]; rfl
      refine Gp_get 6 hm588535 he588592 dr_cX17_count__76 (gk_X17 D I) (Nat.le_of_ble_eq_true rfl) wr_7_80 rfl ?_
      have hT588605 : RS D I P588528 F588589 γ el := RS_set hT n588591 htq588530 (by decide) ⟨q588537, q588538, p588539, p588540, p588541, p588542, p588543, p588544, p588545, p588546, p588547, p588548, p588549, 0, p588551, p588552, p588553, he588592, ⟨(gB_w bp588539' (by decide) (by decide)), bp588540, (hB588580.2.2.1), (hB588580.2.2.2.1), (hB588580.2.2.2.2.1), (hB588580.2.2.2.2.2.1), (hB588580.2.2.2.2.2.2.1), bp588551, (hB588580.2.2.2.2.2.2.2.2)⟩, ht588554, ht588555, ht588556, ht588557, ht588558, ht588559, ht588560, ht588561, ht588562, ht588563, ht588564, ht588565, ht588566, ht588567, ht588568, ht588569, ht588570, ht588571, ht588572, ht588573, ht588574, ht588575, ht588576, ht588577, hB588581⟩
      have hm588606 : (γ 9 6) ∈ P588528 := RS_m hT588605 ht588562 (by decide)
      obtain ⟨q588608, q588609, p588610, p588611, he588607, ht588627, ht588612, ht588613, ht588614, ht588615, r588616, r588617, r588618, r588619, r588620, r588621, r588622, r588623, r588624, r588625, r588626⟩ := show rk_9 γ el (γ 9 6) (F588589 (γ 9 6)) from RS_o hT588605 ht588562
      have bp588610 : gB p588610 0 1000000 := ⟨by omega, by omega⟩
      have bp588611 : gB p588611 0 1000000 := ⟨by omega, by omega⟩
      have fq588628 : fI (F588589 (γ 9 6)) 3 = p588611 := by rw [he588607]; rfl
      refine Gw_callV (As := []) (gV_ok D I) (cp_12780_Code_size l hl0 D I P588528 F588589 (γ 9 6) q588608 q588609 p588610 p588611 hm588606 he588607) dr_cX17_count__79 ⟨wr_10_160, wr_1_15, wr_9_131, by decide, rfl, (Nat.le_of_ble_eq_true rfl), (Nat.le_of_ble_eq_true rfl)⟩ wr_9_129 wr_9_130 hm588606 he588607 rfl (show 0 + 0 ≤ 0 by first | omega | decide) (show 0 + 0 ≤ 0 by first | omega | decide) (Nat.le_of_ble_eq_true rfl) (fun r588632 w588633 dc588629 ds588630 hp588631 => ?_) (fun _ _ _ _ _ z => z.elim)
      obtain ⟨rfl, rfl, hdc, hds⟩ := hp588631
      change G _ _ _ _ _ _ _ (.int p588611 :: _) _ _ _
      refine G_widen (cs' := 0) (sl' := 0) (by omega) (by omega) ?_
      refine G_goto 86 dr_cX17_count__82 (by decide +kernel) ?_
      have ac588634 : (fI (F588589 q588530) 9).toInt = p588539.toInt := by rw [he588592]; rfl
      have ac588635 : (fI (F588589 q588530) 10).toInt = p588540.toInt := by rw [he588592]; rfl
      have ac588636 : (fI (F588589 q588530) 32).toInt = p588551.toInt := by rw [he588592]; rfl
      exact G_iretA dr_cX17_count__86 rfl (Nat.le_of_ble_eq_true rfl) (Nat.le_of_ble_eq_true rfl) ⟨F588589, p588611, rfl, rfl, hT588605, hs588593, (Nat.le_of_ble_eq_true rfl), (Nat.le_of_ble_eq_true rfl), (by omega), (by omega), (by omega), (fun R c1 c2 c3 c4 c5 c6 c7 c8 c9 c10 c11 c12 c13 c14 c15 c16 c17 c18 c19 c20 c21 c22 => c2 F588589 p588539 p588611 n588591 fq588594 ehs588595 fq588596 r588603 fq588604 fq588628)⟩
  by_cases hs588637 : p588531 = 1
  · have ehs588637 : p588531.toInt = 1 := gj_eq hs588637 (show Int32.toInt 1 = 1 by decide)
    have bp588531' : gB p588531 1 1 := ⟨by omega, by omega⟩
    refine G_eqi (y := 1) hs588637 ?_
    refine G_tableIn 87 dr_cX17_count__6 (by decide) (by decide) (by first | rfl | decide) (by decide) ?_
    refine G_aload_n 0 dr_cX17_count__87 rfl ?_
    have fq588638 : fI (F588589 q588530) 9 = p588539 := by rw [he588592]; rfl
    refine Gp_get 9 hm588535 he588592 dr_cX17_count__88 (gk_X17 D I) (Nat.le_of_ble_eq_true rfl) wr_7_83 rfl ?_
    refine G_if_eq 104 dr_cX17_count__91 (by decide +kernel) (fun hc588639 => ?_) (fun hc588639 => ?_)
    · have r588640 : p588539.toInt = 0 := gj_eq hc588639 (show Int32.toInt 0 = 0 by decide)
      have bp588539' : gB p588539 0 0 := gB_t0 r588640
      refine G_iconst 0 dr_cX17_count__104 (by decide +kernel) ?_
      have hT588641 : RS D I P588528 F588589 γ el := RS_set hT n588591 htq588530 (by decide) ⟨q588537, q588538, p588539, p588540, p588541, p588542, p588543, p588544, p588545, p588546, p588547, p588548, p588549, 0, p588551, p588552, p588553, he588592, ⟨(gB_w bp588539' (by decide) (by decide)), bp588540, (hB588580.2.2.1), (hB588580.2.2.2.1), (hB588580.2.2.2.2.1), (hB588580.2.2.2.2.2.1), (hB588580.2.2.2.2.2.2.1), bp588551, (hB588580.2.2.2.2.2.2.2.2)⟩, ht588554, ht588555, ht588556, ht588557, ht588558, ht588559, ht588560, ht588561, ht588562, ht588563, ht588564, ht588565, ht588566, ht588567, ht588568, ht588569, ht588570, ht588571, ht588572, ht588573, ht588574, ht588575, ht588576, ht588577, hB588581⟩
      have ac588642 : (fI (F588589 q588530) 9).toInt = p588539.toInt := by rw [he588592]; rfl
      have ac588643 : (fI (F588589 q588530) 10).toInt = p588540.toInt := by rw [he588592]; rfl
      have ac588644 : (fI (F588589 q588530) 32).toInt = p588551.toInt := by rw [he588592]; rfl
      exact G_iretA dr_cX17_count__105 rfl (Nat.le_of_ble_eq_true rfl) (Nat.le_of_ble_eq_true rfl) ⟨F588589, 0, rfl, rfl, hT588641, hs588593, (Nat.le_of_ble_eq_true rfl), (Nat.le_of_ble_eq_true rfl), (by have qa0 : Int32.toInt 0 = 0 := (by decide); omega), (by have qa0 : Int32.toInt 0 = 0 := (by decide); omega), (by have qa0 : Int32.toInt 0 = 0 := (by decide); omega), (fun R c1 c2 c3 c4 c5 c6 c7 c8 c9 c10 c11 c12 c13 c14 c15 c16 c17 c18 c19 c20 c21 c22 => c3 F588589 p588539 n588591 fq588594 ehs588637 fq588638 r588640)⟩
    · have r588645 : p588539.toInt ≠ 0 := gj_neq hc588639 (show Int32.toInt 0 = 0 by decide)
      have bp588539' : gB p588539 1 1 := gB_t1 bp588539 r588645
      refine G_aload_n 0 dr_cX17_count__94 rfl ?_
      have fq588646 : fR (F588589 q588530) 6 = (γ 9 6) := by rw [he588592]; rfl
      refine Gp_get 6 hm588535 he588592 dr_cX17_count__95 (gk_X17 D I) (Nat.le_of_ble_eq_true rfl) wr_7_80 rfl ?_
      have hT588647 : RS D I P588528 F588589 γ el := RS_set hT n588591 htq588530 (by decide) ⟨q588537, q588538, p588539, p588540, p588541, p588542, p588543, p588544, p588545, p588546, p588547, p588548, p588549, 0, p588551, p588552, p588553, he588592, ⟨(gB_w bp588539' (by decide) (by decide)), bp588540, (hB588580.2.2.1), (hB588580.2.2.2.1), (hB588580.2.2.2.2.1), (hB588580.2.2.2.2.2.1), (hB588580.2.2.2.2.2.2.1), bp588551, (hB588580.2.2.2.2.2.2.2.2)⟩, ht588554, ht588555, ht588556, ht588557, ht588558, ht588559, ht588560, ht588561, ht588562, ht588563, ht588564, ht588565, ht588566, ht588567, ht588568, ht588569, ht588570, ht588571, ht588572, ht588573, ht588574, ht588575, ht588576, ht588577, hB588581⟩
      have hm588653 : (γ 9 6) ∈ P588528 := RS_m hT588647 ht588562 (by decide)
      obtain ⟨q588655, q588656, p588657, p588658, he588654, ht588674, ht588659, ht588660, ht588661, ht588662, r588663, r588664, r588665, r588666, r588667, r588668, r588669, r588670, r588671, r588672, r588673⟩ := show rk_9 γ el (γ 9 6) (F588589 (γ 9 6)) from RS_o hT588647 ht588562
      have bp588657 : gB p588657 0 1000000 := ⟨by omega, by omega⟩
      have bp588658 : gB p588658 0 1000000 := ⟨by omega, by omega⟩
      refine Gw_callV (As := []) (gV_ok D I) (ct_7810_Code_countRows l hl0 D I γ el P588528 F588589 (γ 9 6) hT588647 ht588562 (by have qa0 : Int32.toInt 0 = 0 := (by decide); omega)) dr_cX17_count__98 ⟨wr_10_229, wr_1_15, wr_10_232, by decide, rfl, (Nat.le_of_ble_eq_true rfl), (Nat.le_of_ble_eq_true rfl)⟩ wr_10_230 wr_10_231 hm588653 he588654 rfl (show 0 + 0 ≤ 0 by first | omega | decide) (show 0 + 0 ≤ 0 by first | omega | decide) (Nat.le_of_ble_eq_true rfl) (fun r588651 w588652 dc588648 ds588649 hp588650 => ?_) (fun _ _ _ _ _ z => z.elim)
      obtain ⟨o588675, rfl, rfl, hdc, hds, ht588676⟩ := hp588650
      have bo588675 := gB_any o588675
      change G _ _ _ _ _ _ _ (.int o588675 :: _) _ _ _
      refine G_widen (cs' := 0) (sl' := 0) (by omega) (by omega) ?_
      refine G_goto 105 dr_cX17_count__101 (by decide +kernel) ?_
      have ac588677 : (fI (F588589 q588530) 9).toInt = p588539.toInt := by rw [he588592]; rfl
      have ac588678 : (fI (F588589 q588530) 10).toInt = p588540.toInt := by rw [he588592]; rfl
      have ac588679 : (fI (F588589 q588530) 32).toInt = p588551.toInt := by rw [he588592]; rfl
      exact G_iretA dr_cX17_count__105 rfl (Nat.le_of_ble_eq_true rfl) (Nat.le_of_ble_eq_true rfl) ⟨F588589, o588675, rfl, rfl, hT588647, hs588593, (Nat.le_of_ble_eq_true rfl), (Nat.le_of_ble_eq_true rfl), (by omega), (by omega), (by omega), (fun R c1 c2 c3 c4 c5 c6 c7 c8 c9 c10 c11 c12 c13 c14 c15 c16 c17 c18 c19 c20 c21 c22 => c4 F588589 p588539 o588675 n588591 fq588594 ehs588637 fq588638 r588645 fq588646 ht588676)⟩
  by_cases hs588680 : p588531 = 2
  · have ehs588680 : p588531.toInt = 2 := gj_eq hs588680 (show Int32.toInt 2 = 2 by decide)
    have bp588531' : gB p588531 2 2 := ⟨by omega, by omega⟩
    refine G_eqi (y := 2) hs588680 ?_
    refine G_tableIn 106 dr_cX17_count__6 (by decide) (by decide) (by first | rfl | decide) (by decide) ?_
    refine G_aload_n 0 dr_cX17_count__106 rfl ?_
    have fq588681 : fI (F588589 q588530) 33 = p588552 := by rw [he588592]; rfl
    refine Gp_get 33 hm588535 he588592 dr_cX17_count__107 (gk_X17 D I) (Nat.le_of_ble_eq_true rfl) wr_7_107 rfl ?_
    have bp588552 : gB p588552 (-2147483648) 2147483647 := (gB_any p588552)
    have hT588682 : RS D I P588528 F588589 γ el := RS_set hT n588591 htq588530 (by decide) ⟨q588537, q588538, p588539, p588540, p588541, p588542, p588543, p588544, p588545, p588546, p588547, p588548, p588549, 0, p588551, p588552, p588553, he588592, ⟨bp588539, bp588540, (hB588580.2.2.1), (hB588580.2.2.2.1), (hB588580.2.2.2.2.1), (hB588580.2.2.2.2.2.1), (hB588580.2.2.2.2.2.2.1), bp588551, (hB588580.2.2.2.2.2.2.2.2)⟩, ht588554, ht588555, ht588556, ht588557, ht588558, ht588559, ht588560, ht588561, ht588562, ht588563, ht588564, ht588565, ht588566, ht588567, ht588568, ht588569, ht588570, ht588571, ht588572, ht588573, ht588574, ht588575, ht588576, ht588577, hB588581⟩
    have ac588683 : (fI (F588589 q588530) 9).toInt = p588539.toInt := by rw [he588592]; rfl
    have ac588684 : (fI (F588589 q588530) 10).toInt = p588540.toInt := by rw [he588592]; rfl
    have ac588685 : (fI (F588589 q588530) 32).toInt = p588551.toInt := by rw [he588592]; rfl
    exact G_iretA dr_cX17_count__110 rfl (Nat.le_of_ble_eq_true rfl) (Nat.le_of_ble_eq_true rfl) ⟨F588589, p588552, rfl, rfl, hT588682, hs588593, (Nat.le_of_ble_eq_true rfl), (Nat.le_of_ble_eq_true rfl), (by omega), (by omega), (by omega), (fun R c1 c2 c3 c4 c5 c6 c7 c8 c9 c10 c11 c12 c13 c14 c15 c16 c17 c18 c19 c20 c21 c22 => c5 F588589 p588552 n588591 fq588594 ehs588680 fq588681)⟩
  by_cases hs588686 : p588531 = 3
  · have ehs588686 : p588531.toInt = 3 := gj_eq hs588686 (show Int32.toInt 3 = 3 by decide)
    have bp588531' : gB p588531 3 3 := ⟨by omega, by omega⟩
    refine G_eqi (y := 3) hs588686 ?_
    refine G_tableIn 111 dr_cX17_count__6 (by decide) (by decide) (by first | rfl | decide) (by decide) ?_
    refine G_aload_n 0 dr_cX17_count__111 rfl ?_
    have fq588687 : fI (F588589 q588530) 32 = p588551 := by rw [he588592]; rfl
    refine Gp_get 32 hm588535 he588592 dr_cX17_count__112 (gk_X17 D I) (Nat.le_of_ble_eq_true rfl) wr_7_106 rfl ?_
    have hT588688 : RS D I P588528 F588589 γ el := RS_set hT n588591 htq588530 (by decide) ⟨q588537, q588538, p588539, p588540, p588541, p588542, p588543, p588544, p588545, p588546, p588547, p588548, p588549, 0, p588551, p588552, p588553, he588592, ⟨bp588539, bp588540, (hB588580.2.2.1), (hB588580.2.2.2.1), (hB588580.2.2.2.2.1), (hB588580.2.2.2.2.2.1), (hB588580.2.2.2.2.2.2.1), bp588551, (hB588580.2.2.2.2.2.2.2.2)⟩, ht588554, ht588555, ht588556, ht588557, ht588558, ht588559, ht588560, ht588561, ht588562, ht588563, ht588564, ht588565, ht588566, ht588567, ht588568, ht588569, ht588570, ht588571, ht588572, ht588573, ht588574, ht588575, ht588576, ht588577, hB588581⟩
    have ac588689 : (fI (F588589 q588530) 9).toInt = p588539.toInt := by rw [he588592]; rfl
    have ac588690 : (fI (F588589 q588530) 10).toInt = p588540.toInt := by rw [he588592]; rfl
    have ac588691 : (fI (F588589 q588530) 32).toInt = p588551.toInt := by rw [he588592]; rfl
    exact G_iretA dr_cX17_count__115 rfl (Nat.le_of_ble_eq_true rfl) (Nat.le_of_ble_eq_true rfl) ⟨F588589, p588551, rfl, rfl, hT588688, hs588593, (Nat.le_of_ble_eq_true rfl), (Nat.le_of_ble_eq_true rfl), (by omega), (by omega), (by omega), (fun R c1 c2 c3 c4 c5 c6 c7 c8 c9 c10 c11 c12 c13 c14 c15 c16 c17 c18 c19 c20 c21 c22 => c6 F588589 p588551 n588591 fq588594 ehs588686 fq588687)⟩
  by_cases hs588692 : p588531 = 4
  · have ehs588692 : p588531.toInt = 4 := gj_eq hs588692 (show Int32.toInt 4 = 4 by decide)
    have bp588531' : gB p588531 4 4 := ⟨by omega, by omega⟩
    refine G_eqi (y := 4) hs588692 ?_
    refine G_tableIn 116 dr_cX17_count__6 (by decide) (by decide) (by first | rfl | decide) (by decide) ?_
    refine G_aload_n 0 dr_cX17_count__116 rfl ?_
    have fq588693 : fI (F588589 q588530) 34 = p588553 := by rw [he588592]; rfl
    refine Gp_get 34 hm588535 he588592 dr_cX17_count__117 (gk_X17 D I) (Nat.le_of_ble_eq_true rfl) wr_7_108 rfl ?_
    have bp588553 : gB p588553 0 16777216 := (hB588580.2.2.2.2.2.2.2.2)
    have hT588694 : RS D I P588528 F588589 γ el := RS_set hT n588591 htq588530 (by decide) ⟨q588537, q588538, p588539, p588540, p588541, p588542, p588543, p588544, p588545, p588546, p588547, p588548, p588549, 0, p588551, p588552, p588553, he588592, ⟨bp588539, bp588540, (hB588580.2.2.1), (hB588580.2.2.2.1), (hB588580.2.2.2.2.1), (hB588580.2.2.2.2.2.1), (hB588580.2.2.2.2.2.2.1), bp588551, bp588553⟩, ht588554, ht588555, ht588556, ht588557, ht588558, ht588559, ht588560, ht588561, ht588562, ht588563, ht588564, ht588565, ht588566, ht588567, ht588568, ht588569, ht588570, ht588571, ht588572, ht588573, ht588574, ht588575, ht588576, ht588577, hB588581⟩
    have ac588695 : (fI (F588589 q588530) 9).toInt = p588539.toInt := by rw [he588592]; rfl
    have ac588696 : (fI (F588589 q588530) 10).toInt = p588540.toInt := by rw [he588592]; rfl
    have ac588697 : (fI (F588589 q588530) 32).toInt = p588551.toInt := by rw [he588592]; rfl
    exact G_iretA dr_cX17_count__120 rfl (Nat.le_of_ble_eq_true rfl) (Nat.le_of_ble_eq_true rfl) ⟨F588589, p588553, rfl, rfl, hT588694, hs588593, (Nat.le_of_ble_eq_true rfl), (Nat.le_of_ble_eq_true rfl), (by omega), (by omega), (by omega), (fun R c1 c2 c3 c4 c5 c6 c7 c8 c9 c10 c11 c12 c13 c14 c15 c16 c17 c18 c19 c20 c21 c22 => c7 F588589 p588553 n588591 fq588594 ehs588692 fq588693)⟩
  by_cases hs588698 : p588531 = 5
  · have ehs588698 : p588531.toInt = 5 := gj_eq hs588698 (show Int32.toInt 5 = 5 by decide)
    have bp588531' : gB p588531 5 5 := ⟨by omega, by omega⟩
    refine G_eqi (y := 5) hs588698 ?_
    refine G_tableIn 121 dr_cX17_count__6 (by decide) (by decide) (by first | rfl | decide) (by decide) ?_
    refine G_aload_n 0 dr_cX17_count__121 rfl ?_
    have fq588699 : fI (F588589 q588530) 10 = p588540 := by rw [he588592]; rfl
    refine Gp_get 10 hm588535 he588592 dr_cX17_count__122 (gk_X17 D I) (Nat.le_of_ble_eq_true rfl) wr_7_84 rfl ?_
    refine G_if_eq 138 dr_cX17_count__125 (by decide +kernel) (fun hc588700 => ?_) (fun hc588700 => ?_)
    · have r588701 : p588540.toInt = 0 := gj_eq hc588700 (show Int32.toInt 0 = 0 by decide)
      have bp588540' : gB p588540 0 0 := gB_t0 r588701
      refine G_iconst 0 dr_cX17_count__138 (by decide +kernel) ?_
      have hT588702 : RS D I P588528 F588589 γ el := RS_set hT n588591 htq588530 (by decide) ⟨q588537, q588538, p588539, p588540, p588541, p588542, p588543, p588544, p588545, p588546, p588547, p588548, p588549, 0, p588551, p588552, p588553, he588592, ⟨bp588539, (gB_w bp588540' (by decide) (by decide)), (hB588580.2.2.1), (hB588580.2.2.2.1), (hB588580.2.2.2.2.1), (hB588580.2.2.2.2.2.1), (hB588580.2.2.2.2.2.2.1), bp588551, (hB588580.2.2.2.2.2.2.2.2)⟩, ht588554, ht588555, ht588556, ht588557, ht588558, ht588559, ht588560, ht588561, ht588562, ht588563, ht588564, ht588565, ht588566, ht588567, ht588568, ht588569, ht588570, ht588571, ht588572, ht588573, ht588574, ht588575, ht588576, ht588577, hB588581⟩
      have ac588703 : (fI (F588589 q588530) 9).toInt = p588539.toInt := by rw [he588592]; rfl
      have ac588704 : (fI (F588589 q588530) 10).toInt = p588540.toInt := by rw [he588592]; rfl
      have ac588705 : (fI (F588589 q588530) 32).toInt = p588551.toInt := by rw [he588592]; rfl
      exact G_iretA dr_cX17_count__139 rfl (Nat.le_of_ble_eq_true rfl) (Nat.le_of_ble_eq_true rfl) ⟨F588589, 0, rfl, rfl, hT588702, hs588593, (Nat.le_of_ble_eq_true rfl), (Nat.le_of_ble_eq_true rfl), (by have qa0 : Int32.toInt 0 = 0 := (by decide); omega), (by have qa0 : Int32.toInt 0 = 0 := (by decide); omega), (by have qa0 : Int32.toInt 0 = 0 := (by decide); omega), (fun R c1 c2 c3 c4 c5 c6 c7 c8 c9 c10 c11 c12 c13 c14 c15 c16 c17 c18 c19 c20 c21 c22 => c8 F588589 p588540 n588591 fq588594 ehs588698 fq588699 r588701)⟩
    · have r588706 : p588540.toInt ≠ 0 := gj_neq hc588700 (show Int32.toInt 0 = 0 by decide)
      have bp588540' : gB p588540 1 1 := gB_t1 bp588540 r588706
      refine G_aload_n 0 dr_cX17_count__128 rfl ?_
      have fq588707 : fR (F588589 q588530) 7 = (γ 9 7) := by rw [he588592]; rfl
      refine Gp_get 7 hm588535 he588592 dr_cX17_count__129 (gk_X17 D I) (Nat.le_of_ble_eq_true rfl) wr_7_81 rfl ?_
      have hT588708 : RS D I P588528 F588589 γ el := RS_set hT n588591 htq588530 (by decide) ⟨q588537, q588538, p588539, p588540, p588541, p588542, p588543, p588544, p588545, p588546, p588547, p588548, p588549, 0, p588551, p588552, p588553, he588592, ⟨bp588539, (gB_w bp588540' (by decide) (by decide)), (hB588580.2.2.1), (hB588580.2.2.2.1), (hB588580.2.2.2.2.1), (hB588580.2.2.2.2.2.1), (hB588580.2.2.2.2.2.2.1), bp588551, (hB588580.2.2.2.2.2.2.2.2)⟩, ht588554, ht588555, ht588556, ht588557, ht588558, ht588559, ht588560, ht588561, ht588562, ht588563, ht588564, ht588565, ht588566, ht588567, ht588568, ht588569, ht588570, ht588571, ht588572, ht588573, ht588574, ht588575, ht588576, ht588577, hB588581⟩
      have hm588714 : (γ 9 7) ∈ P588528 := RS_m hT588708 ht588563 (by decide)
      obtain ⟨q588716, q588717, p588718, p588719, he588715, ht588735, ht588720, ht588721, ht588722, ht588723, r588724, r588725, r588726, r588727, r588728, r588729, r588730, r588731, r588732, r588733, r588734⟩ := show rk_9 γ el (γ 9 7) (F588589 (γ 9 7)) from RS_o hT588708 ht588563
      have bp588718 : gB p588718 0 1000000 := ⟨by omega, by omega⟩
      have bp588719 : gB p588719 0 1000000 := ⟨by omega, by omega⟩
      refine Gw_callV (As := []) (gV_ok D I) (ct_7810_Code_countRows l hl0 D I γ el P588528 F588589 (γ 9 7) hT588708 ht588563 (by have qa0 : Int32.toInt 0 = 0 := (by decide); omega)) dr_cX17_count__132 ⟨wr_10_229, wr_1_15, wr_10_232, by decide, rfl, (Nat.le_of_ble_eq_true rfl), (Nat.le_of_ble_eq_true rfl)⟩ wr_10_230 wr_10_231 hm588714 he588715 rfl (show 0 + 0 ≤ 0 by first | omega | decide) (show 0 + 0 ≤ 0 by first | omega | decide) (Nat.le_of_ble_eq_true rfl) (fun r588712 w588713 dc588709 ds588710 hp588711 => ?_) (fun _ _ _ _ _ z => z.elim)
      obtain ⟨o588736, rfl, rfl, hdc, hds, ht588737⟩ := hp588711
      have bo588736 := gB_any o588736
      change G _ _ _ _ _ _ _ (.int o588736 :: _) _ _ _
      refine G_widen (cs' := 0) (sl' := 0) (by omega) (by omega) ?_
      refine G_goto 139 dr_cX17_count__135 (by decide +kernel) ?_
      have ac588738 : (fI (F588589 q588530) 9).toInt = p588539.toInt := by rw [he588592]; rfl
      have ac588739 : (fI (F588589 q588530) 10).toInt = p588540.toInt := by rw [he588592]; rfl
      have ac588740 : (fI (F588589 q588530) 32).toInt = p588551.toInt := by rw [he588592]; rfl
      exact G_iretA dr_cX17_count__139 rfl (Nat.le_of_ble_eq_true rfl) (Nat.le_of_ble_eq_true rfl) ⟨F588589, o588736, rfl, rfl, hT588708, hs588593, (Nat.le_of_ble_eq_true rfl), (Nat.le_of_ble_eq_true rfl), (by omega), (by omega), (by omega), (fun R c1 c2 c3 c4 c5 c6 c7 c8 c9 c10 c11 c12 c13 c14 c15 c16 c17 c18 c19 c20 c21 c22 => c9 F588589 p588540 o588736 n588591 fq588594 ehs588698 fq588699 r588706 fq588707 ht588737)⟩
  by_cases hs588741 : p588531 = 6
  · have ehs588741 : p588531.toInt = 6 := gj_eq hs588741 (show Int32.toInt 6 = 6 by decide)
    have bp588531' : gB p588531 6 6 := ⟨by omega, by omega⟩
    refine G_eqi (y := 6) hs588741 ?_
    refine G_tableIn 140 dr_cX17_count__6 (by decide) (by decide) (by first | rfl | decide) (by decide) ?_
    refine G_aload_n 0 dr_cX17_count__140 rfl ?_
    have fq588742 : fI (F588589 q588530) 10 = p588540 := by rw [he588592]; rfl
    refine Gp_get 10 hm588535 he588592 dr_cX17_count__141 (gk_X17 D I) (Nat.le_of_ble_eq_true rfl) wr_7_84 rfl ?_
    refine G_if_eq 154 dr_cX17_count__144 (by decide +kernel) (fun hc588743 => ?_) (fun hc588743 => ?_)
    · have r588744 : p588540.toInt = 0 := gj_eq hc588743 (show Int32.toInt 0 = 0 by decide)
      have bp588540' : gB p588540 0 0 := gB_t0 r588744
      refine G_iconst 0 dr_cX17_count__154 (by decide +kernel) ?_
      have hT588745 : RS D I P588528 F588589 γ el := RS_set hT n588591 htq588530 (by decide) ⟨q588537, q588538, p588539, p588540, p588541, p588542, p588543, p588544, p588545, p588546, p588547, p588548, p588549, 0, p588551, p588552, p588553, he588592, ⟨bp588539, (gB_w bp588540' (by decide) (by decide)), (hB588580.2.2.1), (hB588580.2.2.2.1), (hB588580.2.2.2.2.1), (hB588580.2.2.2.2.2.1), (hB588580.2.2.2.2.2.2.1), bp588551, (hB588580.2.2.2.2.2.2.2.2)⟩, ht588554, ht588555, ht588556, ht588557, ht588558, ht588559, ht588560, ht588561, ht588562, ht588563, ht588564, ht588565, ht588566, ht588567, ht588568, ht588569, ht588570, ht588571, ht588572, ht588573, ht588574, ht588575, ht588576, ht588577, hB588581⟩
      have ac588746 : (fI (F588589 q588530) 9).toInt = p588539.toInt := by rw [he588592]; rfl
      have ac588747 : (fI (F588589 q588530) 10).toInt = p588540.toInt := by rw [he588592]; rfl
      have ac588748 : (fI (F588589 q588530) 32).toInt = p588551.toInt := by rw [he588592]; rfl
      exact G_iretA dr_cX17_count__155 rfl (Nat.le_of_ble_eq_true rfl) (Nat.le_of_ble_eq_true rfl) ⟨F588589, 0, rfl, rfl, hT588745, hs588593, (Nat.le_of_ble_eq_true rfl), (Nat.le_of_ble_eq_true rfl), (by have qa0 : Int32.toInt 0 = 0 := (by decide); omega), (by have qa0 : Int32.toInt 0 = 0 := (by decide); omega), (by have qa0 : Int32.toInt 0 = 0 := (by decide); omega), (fun R c1 c2 c3 c4 c5 c6 c7 c8 c9 c10 c11 c12 c13 c14 c15 c16 c17 c18 c19 c20 c21 c22 => c10 F588589 p588540 n588591 fq588594 ehs588741 fq588742 r588744)⟩
    · have r588749 : p588540.toInt ≠ 0 := gj_neq hc588743 (show Int32.toInt 0 = 0 by decide)
      have bp588540' : gB p588540 1 1 := gB_t1 bp588540 r588749
      refine G_aload_n 0 dr_cX17_count__147 rfl ?_
      have hT588750 : RS D I P588528 F588589 γ el := RS_set hT n588591 htq588530 (by decide) ⟨q588537, q588538, p588539, p588540, p588541, p588542, p588543, p588544, p588545, p588546, p588547, p588548, p588549, 0, p588551, p588552, p588553, he588592, ⟨bp588539, (gB_w bp588540' (by decide) (by decide)), (hB588580.2.2.1), (hB588580.2.2.2.1), (hB588580.2.2.2.2.1), (hB588580.2.2.2.2.2.1), (hB588580.2.2.2.2.2.2.1), bp588551, (hB588580.2.2.2.2.2.2.2.2)⟩, ht588554, ht588555, ht588556, ht588557, ht588558, ht588559, ht588560, ht588561, ht588562, ht588563, ht588564, ht588565, ht588566, ht588567, ht588568, ht588569, ht588570, ht588571, ht588572, ht588573, ht588574, ht588575, ht588576, ht588577, hB588581⟩
      have ac589011 : (fI (F588589 q588530) 9).toInt = p588539.toInt := by rw [he588592]; rfl
      have ac589012 : (fI (F588589 q588530) 10).toInt = p588540.toInt := by rw [he588592]; rfl
      have ac589013 : (fI (F588589 q588530) 32).toInt = p588551.toInt := by rw [he588592]; rfl
      refine Gw_callV (As := []) (gV_ok D I) (ct_588755_SpillForgeModel_colourCount l hl0 D I γ el P588528 F588589 q588530 hT588750 htq588530 (by have qa0 : Int32.toInt 0 = 0 := (by decide); omega)) dr_cX17_count__148 ⟨wr_11_75, wr_1_14, wr_11_78, by decide, rfl, (Nat.le_of_ble_eq_true rfl), (Nat.le_of_ble_eq_true rfl)⟩ wr_11_77 wr_p_112 hm588535 he588592 rfl (show 0 + 0 ≤ 0 by first | omega | decide) (show 0 + 0 ≤ 0 by first | omega | decide) (Nat.le_of_ble_eq_true rfl) (fun r589017 w589018 dc589014 ds589015 hp589016 => ?_) (fun _ _ _ _ _ z => z.elim)
      obtain ⟨F589022, o589019, rfl, rfl, hT589023, hs589024, hdc, hds, x589020, ht589021⟩ := hp589016
      have hs589025 : rStr γ [] F588529 F589022 := rStr_tr hs588593 hs589024
      have kp589026 : F589022 q588530 = F588589 q588530 := x589020
      have he589027 : F589022 q588530 = .inr (22, [.ref (γ 9 0), .ref (γ 9 1), .ref (γ 9 2), .ref (γ 9 3), .ref (γ 9 4), .ref (γ 9 5), .ref (γ 9 6), .ref (γ 9 7), .ref (γ 9 8), .int p588539, .int p588540, .int p588541, .int p588542, .int p588543, .int p588544, .ref (γ 9 15), .ref (γ 9 16), .ref (γ 9 17), .ref (γ 9 18), .ref (γ 9 19), .ref (γ 9 20), .ref (γ 9 21), .ref (γ 9 22), .int p588545, .int p588546, .int p588547, .int p588548, .int p588549, .ref q588537, .ref (γ 9 29), .int 0, .ref (γ 9 31), .int p588551, .int p588552, .int p588553, .ref q588538]) := (x589020).trans he588592
      have bo589019 := gB_any o589019
      change G _ _ _ _ _ _ _ (.int o589019 :: _) _ _ _
      refine G_widen (cs' := 0) (sl' := 0) (by omega) (by omega) ?_
      refine G_goto 155 dr_cX17_count__151 (by decide +kernel) ?_
      have ac589028 : (fI (F589022 q588530) 9).toInt = p588539.toInt := by rw [he589027]; rfl
      have ac589029 : (fI (F589022 q588530) 10).toInt = p588540.toInt := by rw [he589027]; rfl
      have ac589030 : (fI (F589022 q588530) 32).toInt = p588551.toInt := by rw [he589027]; rfl
      exact G_iretA dr_cX17_count__155 rfl (Nat.le_of_ble_eq_true rfl) (Nat.le_of_ble_eq_true rfl) ⟨F589022, o589019, rfl, rfl, hT589023, hs589025, (Nat.le_of_ble_eq_true rfl), (Nat.le_of_ble_eq_true rfl), (by omega), (by omega), (by omega), (fun R c1 c2 c3 c4 c5 c6 c7 c8 c9 c10 c11 c12 c13 c14 c15 c16 c17 c18 c19 c20 c21 c22 => c11 F588589 p588540 o589019 F589022 n588591 fq588594 ehs588741 fq588742 r588749 hT589023 hs589024 x589020 ht589021)⟩
  by_cases hs589031 : p588531 = 7
  · have ehs589031 : p588531.toInt = 7 := gj_eq hs589031 (show Int32.toInt 7 = 7 by decide)
    have bp588531' : gB p588531 7 7 := ⟨by omega, by omega⟩
    refine G_eqi (y := 7) hs589031 ?_
    refine G_tableIn 156 dr_cX17_count__6 (by decide) (by decide) (by first | rfl | decide) (by decide) ?_
    refine G_aload_n 0 dr_cX17_count__156 rfl ?_
    have fq589032 : fI (F588589 q588530) 10 = p588540 := by rw [he588592]; rfl
    refine Gp_get 10 hm588535 he588592 dr_cX17_count__157 (gk_X17 D I) (Nat.le_of_ble_eq_true rfl) wr_7_84 rfl ?_
    refine G_if_eq 170 dr_cX17_count__160 (by decide +kernel) (fun hc589033 => ?_) (fun hc589033 => ?_)
    · have r589034 : p588540.toInt = 0 := gj_eq hc589033 (show Int32.toInt 0 = 0 by decide)
      have bp588540' : gB p588540 0 0 := gB_t0 r589034
      refine G_iconst 0 dr_cX17_count__170 (by decide +kernel) ?_
      have hT589035 : RS D I P588528 F588589 γ el := RS_set hT n588591 htq588530 (by decide) ⟨q588537, q588538, p588539, p588540, p588541, p588542, p588543, p588544, p588545, p588546, p588547, p588548, p588549, 0, p588551, p588552, p588553, he588592, ⟨bp588539, (gB_w bp588540' (by decide) (by decide)), (hB588580.2.2.1), (hB588580.2.2.2.1), (hB588580.2.2.2.2.1), (hB588580.2.2.2.2.2.1), (hB588580.2.2.2.2.2.2.1), bp588551, (hB588580.2.2.2.2.2.2.2.2)⟩, ht588554, ht588555, ht588556, ht588557, ht588558, ht588559, ht588560, ht588561, ht588562, ht588563, ht588564, ht588565, ht588566, ht588567, ht588568, ht588569, ht588570, ht588571, ht588572, ht588573, ht588574, ht588575, ht588576, ht588577, hB588581⟩
      have ac589036 : (fI (F588589 q588530) 9).toInt = p588539.toInt := by rw [he588592]; rfl
      have ac589037 : (fI (F588589 q588530) 10).toInt = p588540.toInt := by rw [he588592]; rfl
      have ac589038 : (fI (F588589 q588530) 32).toInt = p588551.toInt := by rw [he588592]; rfl
      exact G_iretA dr_cX17_count__171 rfl (Nat.le_of_ble_eq_true rfl) (Nat.le_of_ble_eq_true rfl) ⟨F588589, 0, rfl, rfl, hT589035, hs588593, (Nat.le_of_ble_eq_true rfl), (Nat.le_of_ble_eq_true rfl), (by have qa0 : Int32.toInt 0 = 0 := (by decide); omega), (by have qa0 : Int32.toInt 0 = 0 := (by decide); omega), (by have qa0 : Int32.toInt 0 = 0 := (by decide); omega), (fun R c1 c2 c3 c4 c5 c6 c7 c8 c9 c10 c11 c12 c13 c14 c15 c16 c17 c18 c19 c20 c21 c22 => c12 F588589 p588540 n588591 fq588594 ehs589031 fq589032 r589034)⟩
    · have r589039 : p588540.toInt ≠ 0 := gj_neq hc589033 (show Int32.toInt 0 = 0 by decide)
      have bp588540' : gB p588540 1 1 := gB_t1 bp588540 r589039
      refine G_aload_n 0 dr_cX17_count__163 rfl ?_
      have fq589040 : fI (F588589 q588530) 11 = p588541 := by rw [he588592]; rfl
      refine Gp_get 11 hm588535 he588592 dr_cX17_count__164 (gk_X17 D I) (Nat.le_of_ble_eq_true rfl) wr_7_85 rfl ?_
      have bp588541 : gB p588541 0 100 := (hB588580.2.2.1)
      refine G_goto 171 dr_cX17_count__167 (by decide +kernel) ?_
      have hT589041 : RS D I P588528 F588589 γ el := RS_set hT n588591 htq588530 (by decide) ⟨q588537, q588538, p588539, p588540, p588541, p588542, p588543, p588544, p588545, p588546, p588547, p588548, p588549, 0, p588551, p588552, p588553, he588592, ⟨bp588539, (gB_w bp588540' (by decide) (by decide)), bp588541, (hB588580.2.2.2.1), (hB588580.2.2.2.2.1), (hB588580.2.2.2.2.2.1), (hB588580.2.2.2.2.2.2.1), bp588551, (hB588580.2.2.2.2.2.2.2.2)⟩, ht588554, ht588555, ht588556, ht588557, ht588558, ht588559, ht588560, ht588561, ht588562, ht588563, ht588564, ht588565, ht588566, ht588567, ht588568, ht588569, ht588570, ht588571, ht588572, ht588573, ht588574, ht588575, ht588576, ht588577, hB588581⟩
      have ac589042 : (fI (F588589 q588530) 9).toInt = p588539.toInt := by rw [he588592]; rfl
      have ac589043 : (fI (F588589 q588530) 10).toInt = p588540.toInt := by rw [he588592]; rfl
      have ac589044 : (fI (F588589 q588530) 32).toInt = p588551.toInt := by rw [he588592]; rfl
      exact G_iretA dr_cX17_count__171 rfl (Nat.le_of_ble_eq_true rfl) (Nat.le_of_ble_eq_true rfl) ⟨F588589, p588541, rfl, rfl, hT589041, hs588593, (Nat.le_of_ble_eq_true rfl), (Nat.le_of_ble_eq_true rfl), (by omega), (by omega), (by omega), (fun R c1 c2 c3 c4 c5 c6 c7 c8 c9 c10 c11 c12 c13 c14 c15 c16 c17 c18 c19 c20 c21 c22 => c13 F588589 p588540 p588541 n588591 fq588594 ehs589031 fq589032 r589039 fq589040)⟩
  by_cases hs589045 : p588531 = 8
  · have ehs589045 : p588531.toInt = 8 := gj_eq hs589045 (show Int32.toInt 8 = 8 by decide)
    have bp588531' : gB p588531 8 8 := ⟨by omega, by omega⟩
    refine G_eqi (y := 8) hs589045 ?_
    refine G_tableIn 172 dr_cX17_count__6 (by decide) (by decide) (by first | rfl | decide) (by decide) ?_
    refine G_aload_n 0 dr_cX17_count__172 rfl ?_
    have fq589046 : fI (F588589 q588530) 10 = p588540 := by rw [he588592]; rfl
    refine Gp_get 10 hm588535 he588592 dr_cX17_count__173 (gk_X17 D I) (Nat.le_of_ble_eq_true rfl) wr_7_84 rfl ?_
    refine G_if_eq 186 dr_cX17_count__176 (by decide +kernel) (fun hc589047 => ?_) (fun hc589047 => ?_)
    · have r589048 : p588540.toInt = 0 := gj_eq hc589047 (show Int32.toInt 0 = 0 by decide)
      have bp588540' : gB p588540 0 0 := gB_t0 r589048
      refine G_iconst 0 dr_cX17_count__186 (by decide +kernel) ?_
      have hT589049 : RS D I P588528 F588589 γ el := RS_set hT n588591 htq588530 (by decide) ⟨q588537, q588538, p588539, p588540, p588541, p588542, p588543, p588544, p588545, p588546, p588547, p588548, p588549, 0, p588551, p588552, p588553, he588592, ⟨bp588539, (gB_w bp588540' (by decide) (by decide)), (hB588580.2.2.1), (hB588580.2.2.2.1), (hB588580.2.2.2.2.1), (hB588580.2.2.2.2.2.1), (hB588580.2.2.2.2.2.2.1), bp588551, (hB588580.2.2.2.2.2.2.2.2)⟩, ht588554, ht588555, ht588556, ht588557, ht588558, ht588559, ht588560, ht588561, ht588562, ht588563, ht588564, ht588565, ht588566, ht588567, ht588568, ht588569, ht588570, ht588571, ht588572, ht588573, ht588574, ht588575, ht588576, ht588577, hB588581⟩
      have ac589050 : (fI (F588589 q588530) 9).toInt = p588539.toInt := by rw [he588592]; rfl
      have ac589051 : (fI (F588589 q588530) 10).toInt = p588540.toInt := by rw [he588592]; rfl
      have ac589052 : (fI (F588589 q588530) 32).toInt = p588551.toInt := by rw [he588592]; rfl
      exact G_iretA dr_cX17_count__187 rfl (Nat.le_of_ble_eq_true rfl) (Nat.le_of_ble_eq_true rfl) ⟨F588589, 0, rfl, rfl, hT589049, hs588593, (Nat.le_of_ble_eq_true rfl), (Nat.le_of_ble_eq_true rfl), (by have qa0 : Int32.toInt 0 = 0 := (by decide); omega), (by have qa0 : Int32.toInt 0 = 0 := (by decide); omega), (by have qa0 : Int32.toInt 0 = 0 := (by decide); omega), (fun R c1 c2 c3 c4 c5 c6 c7 c8 c9 c10 c11 c12 c13 c14 c15 c16 c17 c18 c19 c20 c21 c22 => c14 F588589 p588540 n588591 fq588594 ehs589045 fq589046 r589048)⟩
    · have r589053 : p588540.toInt ≠ 0 := gj_neq hc589047 (show Int32.toInt 0 = 0 by decide)
      have bp588540' : gB p588540 1 1 := gB_t1 bp588540 r589053
      refine G_aload_n 0 dr_cX17_count__179 rfl ?_
      have fq589054 : fI (F588589 q588530) 12 = p588542 := by rw [he588592]; rfl
      refine Gp_get 12 hm588535 he588592 dr_cX17_count__180 (gk_X17 D I) (Nat.le_of_ble_eq_true rfl) wr_7_86 rfl ?_
      have bp588542 : gB p588542 (-2147483648) 2147483647 := (gB_any p588542)
      refine G_goto 187 dr_cX17_count__183 (by decide +kernel) ?_
      have hT589055 : RS D I P588528 F588589 γ el := RS_set hT n588591 htq588530 (by decide) ⟨q588537, q588538, p588539, p588540, p588541, p588542, p588543, p588544, p588545, p588546, p588547, p588548, p588549, 0, p588551, p588552, p588553, he588592, ⟨bp588539, (gB_w bp588540' (by decide) (by decide)), (hB588580.2.2.1), (hB588580.2.2.2.1), (hB588580.2.2.2.2.1), (hB588580.2.2.2.2.2.1), (hB588580.2.2.2.2.2.2.1), bp588551, (hB588580.2.2.2.2.2.2.2.2)⟩, ht588554, ht588555, ht588556, ht588557, ht588558, ht588559, ht588560, ht588561, ht588562, ht588563, ht588564, ht588565, ht588566, ht588567, ht588568, ht588569, ht588570, ht588571, ht588572, ht588573, ht588574, ht588575, ht588576, ht588577, hB588581⟩
      have ac589056 : (fI (F588589 q588530) 9).toInt = p588539.toInt := by rw [he588592]; rfl
      have ac589057 : (fI (F588589 q588530) 10).toInt = p588540.toInt := by rw [he588592]; rfl
      have ac589058 : (fI (F588589 q588530) 32).toInt = p588551.toInt := by rw [he588592]; rfl
      exact G_iretA dr_cX17_count__187 rfl (Nat.le_of_ble_eq_true rfl) (Nat.le_of_ble_eq_true rfl) ⟨F588589, p588542, rfl, rfl, hT589055, hs588593, (Nat.le_of_ble_eq_true rfl), (Nat.le_of_ble_eq_true rfl), (by omega), (by omega), (by omega), (fun R c1 c2 c3 c4 c5 c6 c7 c8 c9 c10 c11 c12 c13 c14 c15 c16 c17 c18 c19 c20 c21 c22 => c15 F588589 p588540 p588542 n588591 fq588594 ehs589045 fq589046 r589053 fq589054)⟩
  by_cases hs589059 : p588531 = 9
  · have ehs589059 : p588531.toInt = 9 := gj_eq hs589059 (show Int32.toInt 9 = 9 by decide)
    have bp588531' : gB p588531 9 9 := ⟨by omega, by omega⟩
    refine G_eqi (y := 9) hs589059 ?_
    refine G_tableIn 188 dr_cX17_count__6 (by decide) (by decide) (by first | rfl | decide) (by decide) ?_
    refine G_aload_n 0 dr_cX17_count__188 rfl ?_
    have fq589060 : fI (F588589 q588530) 10 = p588540 := by rw [he588592]; rfl
    refine Gp_get 10 hm588535 he588592 dr_cX17_count__189 (gk_X17 D I) (Nat.le_of_ble_eq_true rfl) wr_7_84 rfl ?_
    refine G_if_eq 202 dr_cX17_count__192 (by decide +kernel) (fun hc589061 => ?_) (fun hc589061 => ?_)
    · have r589062 : p588540.toInt = 0 := gj_eq hc589061 (show Int32.toInt 0 = 0 by decide)
      have bp588540' : gB p588540 0 0 := gB_t0 r589062
      refine G_iconst 0 dr_cX17_count__202 (by decide +kernel) ?_
      have hT589063 : RS D I P588528 F588589 γ el := RS_set hT n588591 htq588530 (by decide) ⟨q588537, q588538, p588539, p588540, p588541, p588542, p588543, p588544, p588545, p588546, p588547, p588548, p588549, 0, p588551, p588552, p588553, he588592, ⟨bp588539, (gB_w bp588540' (by decide) (by decide)), (hB588580.2.2.1), (hB588580.2.2.2.1), (hB588580.2.2.2.2.1), (hB588580.2.2.2.2.2.1), (hB588580.2.2.2.2.2.2.1), bp588551, (hB588580.2.2.2.2.2.2.2.2)⟩, ht588554, ht588555, ht588556, ht588557, ht588558, ht588559, ht588560, ht588561, ht588562, ht588563, ht588564, ht588565, ht588566, ht588567, ht588568, ht588569, ht588570, ht588571, ht588572, ht588573, ht588574, ht588575, ht588576, ht588577, hB588581⟩
      have ac589064 : (fI (F588589 q588530) 9).toInt = p588539.toInt := by rw [he588592]; rfl
      have ac589065 : (fI (F588589 q588530) 10).toInt = p588540.toInt := by rw [he588592]; rfl
      have ac589066 : (fI (F588589 q588530) 32).toInt = p588551.toInt := by rw [he588592]; rfl
      exact G_iretA dr_cX17_count__203 rfl (Nat.le_of_ble_eq_true rfl) (Nat.le_of_ble_eq_true rfl) ⟨F588589, 0, rfl, rfl, hT589063, hs588593, (Nat.le_of_ble_eq_true rfl), (Nat.le_of_ble_eq_true rfl), (by have qa0 : Int32.toInt 0 = 0 := (by decide); omega), (by have qa0 : Int32.toInt 0 = 0 := (by decide); omega), (by have qa0 : Int32.toInt 0 = 0 := (by decide); omega), (fun R c1 c2 c3 c4 c5 c6 c7 c8 c9 c10 c11 c12 c13 c14 c15 c16 c17 c18 c19 c20 c21 c22 => c16 F588589 p588540 n588591 fq588594 ehs589059 fq589060 r589062)⟩
    · have r589067 : p588540.toInt ≠ 0 := gj_neq hc589061 (show Int32.toInt 0 = 0 by decide)
      have bp588540' : gB p588540 1 1 := gB_t1 bp588540 r589067
      refine G_aload_n 0 dr_cX17_count__195 rfl ?_
      have fq589068 : fI (F588589 q588530) 13 = p588543 := by rw [he588592]; rfl
      refine Gp_get 13 hm588535 he588592 dr_cX17_count__196 (gk_X17 D I) (Nat.le_of_ble_eq_true rfl) wr_7_87 rfl ?_
      have bp588543 : gB p588543 (-2147483648) 2147483647 := (gB_any p588543)
      refine G_goto 203 dr_cX17_count__199 (by decide +kernel) ?_
      have hT589069 : RS D I P588528 F588589 γ el := RS_set hT n588591 htq588530 (by decide) ⟨q588537, q588538, p588539, p588540, p588541, p588542, p588543, p588544, p588545, p588546, p588547, p588548, p588549, 0, p588551, p588552, p588553, he588592, ⟨bp588539, (gB_w bp588540' (by decide) (by decide)), (hB588580.2.2.1), (hB588580.2.2.2.1), (hB588580.2.2.2.2.1), (hB588580.2.2.2.2.2.1), (hB588580.2.2.2.2.2.2.1), bp588551, (hB588580.2.2.2.2.2.2.2.2)⟩, ht588554, ht588555, ht588556, ht588557, ht588558, ht588559, ht588560, ht588561, ht588562, ht588563, ht588564, ht588565, ht588566, ht588567, ht588568, ht588569, ht588570, ht588571, ht588572, ht588573, ht588574, ht588575, ht588576, ht588577, hB588581⟩
      have ac589070 : (fI (F588589 q588530) 9).toInt = p588539.toInt := by rw [he588592]; rfl
      have ac589071 : (fI (F588589 q588530) 10).toInt = p588540.toInt := by rw [he588592]; rfl
      have ac589072 : (fI (F588589 q588530) 32).toInt = p588551.toInt := by rw [he588592]; rfl
      exact G_iretA dr_cX17_count__203 rfl (Nat.le_of_ble_eq_true rfl) (Nat.le_of_ble_eq_true rfl) ⟨F588589, p588543, rfl, rfl, hT589069, hs588593, (Nat.le_of_ble_eq_true rfl), (Nat.le_of_ble_eq_true rfl), (by omega), (by omega), (by omega), (fun R c1 c2 c3 c4 c5 c6 c7 c8 c9 c10 c11 c12 c13 c14 c15 c16 c17 c18 c19 c20 c21 c22 => c17 F588589 p588540 p588543 n588591 fq588594 ehs589059 fq589060 r589067 fq589068)⟩
  by_cases hs589073 : p588531 = 10
  · have ehs589073 : p588531.toInt = 10 := gj_eq hs589073 (show Int32.toInt 10 = 10 by decide)
    have bp588531' : gB p588531 10 10 := ⟨by omega, by omega⟩
    refine G_eqi (y := 10) hs589073 ?_
    refine G_tableIn 204 dr_cX17_count__6 (by decide) (by decide) (by first | rfl | decide) (by decide) ?_
    refine G_aload_n 0 dr_cX17_count__204 rfl ?_
    have fq589074 : fI (F588589 q588530) 10 = p588540 := by rw [he588592]; rfl
    refine Gp_get 10 hm588535 he588592 dr_cX17_count__205 (gk_X17 D I) (Nat.le_of_ble_eq_true rfl) wr_7_84 rfl ?_
    refine G_if_eq 223 dr_cX17_count__208 (by decide +kernel) (fun hc589075 => ?_) (fun hc589075 => ?_)
    · have r589076 : p588540.toInt = 0 := gj_eq hc589075 (show Int32.toInt 0 = 0 by decide)
      have bp588540' : gB p588540 0 0 := gB_t0 r589076
      refine G_iconst 0 dr_cX17_count__223 (by decide +kernel) ?_
      have hT589077 : RS D I P588528 F588589 γ el := RS_set hT n588591 htq588530 (by decide) ⟨q588537, q588538, p588539, p588540, p588541, p588542, p588543, p588544, p588545, p588546, p588547, p588548, p588549, 0, p588551, p588552, p588553, he588592, ⟨bp588539, (gB_w bp588540' (by decide) (by decide)), (hB588580.2.2.1), (hB588580.2.2.2.1), (hB588580.2.2.2.2.1), (hB588580.2.2.2.2.2.1), (hB588580.2.2.2.2.2.2.1), bp588551, (hB588580.2.2.2.2.2.2.2.2)⟩, ht588554, ht588555, ht588556, ht588557, ht588558, ht588559, ht588560, ht588561, ht588562, ht588563, ht588564, ht588565, ht588566, ht588567, ht588568, ht588569, ht588570, ht588571, ht588572, ht588573, ht588574, ht588575, ht588576, ht588577, hB588581⟩
      have ac589078 : (fI (F588589 q588530) 9).toInt = p588539.toInt := by rw [he588592]; rfl
      have ac589079 : (fI (F588589 q588530) 10).toInt = p588540.toInt := by rw [he588592]; rfl
      have ac589080 : (fI (F588589 q588530) 32).toInt = p588551.toInt := by rw [he588592]; rfl
      exact G_iretA dr_cX17_count__224 rfl (Nat.le_of_ble_eq_true rfl) (Nat.le_of_ble_eq_true rfl) ⟨F588589, 0, rfl, rfl, hT589077, hs588593, (Nat.le_of_ble_eq_true rfl), (Nat.le_of_ble_eq_true rfl), (by have qa0 : Int32.toInt 0 = 0 := (by decide); omega), (by have qa0 : Int32.toInt 0 = 0 := (by decide); omega), (by have qa0 : Int32.toInt 0 = 0 := (by decide); omega), (fun R c1 c2 c3 c4 c5 c6 c7 c8 c9 c10 c11 c12 c13 c14 c15 c16 c17 c18 c19 c20 c21 c22 => c18 F588589 p588540 n588591 fq588594 ehs589073 fq589074 r589076)⟩
    · have r589081 : p588540.toInt ≠ 0 := gj_neq hc589075 (show Int32.toInt 0 = 0 by decide)
      have bp588540' : gB p588540 1 1 := gB_t1 bp588540 r589081
      refine G_aload_n 0 dr_cX17_count__211 rfl ?_
      have fq589082 : fR (F588589 q588530) 7 = (γ 9 7) := by rw [he588592]; rfl
      refine Gp_get 7 hm588535 he588592 dr_cX17_count__212 (gk_X17 D I) (Nat.le_of_ble_eq_true rfl) wr_7_81 rfl ?_
      refine G_bipush 21 dr_cX17_count__215 (by decide +kernel) ?_
      have hT589083 : RS D I P588528 F588589 γ el := RS_set hT n588591 htq588530 (by decide) ⟨q588537, q588538, p588539, p588540, p588541, p588542, p588543, p588544, p588545, p588546, p588547, p588548, p588549, 0, p588551, p588552, p588553, he588592, ⟨bp588539, (gB_w bp588540' (by decide) (by decide)), (hB588580.2.2.1), (hB588580.2.2.2.1), (hB588580.2.2.2.2.1), (hB588580.2.2.2.2.2.1), (hB588580.2.2.2.2.2.2.1), bp588551, (hB588580.2.2.2.2.2.2.2.2)⟩, ht588554, ht588555, ht588556, ht588557, ht588558, ht588559, ht588560, ht588561, ht588562, ht588563, ht588564, ht588565, ht588566, ht588567, ht588568, ht588569, ht588570, ht588571, ht588572, ht588573, ht588574, ht588575, ht588576, ht588577, hB588581⟩
      have hm589089 : (γ 9 7) ∈ P588528 := RS_m hT589083 ht588563 (by decide)
      obtain ⟨q589091, q589092, p589093, p589094, he589090, ht589110, ht589095, ht589096, ht589097, ht589098, r589099, r589100, r589101, r589102, r589103, r589104, r589105, r589106, r589107, r589108, r589109⟩ := show rk_9 γ el (γ 9 7) (F588589 (γ 9 7)) from RS_o hT589083 ht588563
      have bp589093 : gB p589093 0 1000000 := ⟨by omega, by omega⟩
      have bp589094 : gB p589094 0 1000000 := ⟨by omega, by omega⟩
      refine Gw_callV (As := [.int 21]) (gV_ok D I) (ct_8782_Code_count l hl0 D I γ el P588528 F588589 (γ 9 7) 21 hT589083 ht588563 (by have qa0 : Int32.toInt 0 = 0 := (by decide); omega)) dr_cX17_count__217 ⟨wr_11_79, wr_1_15, wr_11_82, by decide, rfl, (Nat.le_of_ble_eq_true rfl), (Nat.le_of_ble_eq_true rfl)⟩ wr_11_80 wr_11_81 hm589089 he589090 rfl (show 0 + 0 ≤ 0 by first | omega | decide) (show 0 + 0 ≤ 0 by first | omega | decide) (Nat.le_of_ble_eq_true rfl) (fun r589087 w589088 dc589084 ds589085 hp589086 => ?_) (fun _ _ _ _ _ z => z.elim)
      obtain ⟨o589111, rfl, rfl, hdc, hds, ht589112⟩ := hp589086
      have bo589111 := gB_any o589111
      change G _ _ _ _ _ _ _ (.int o589111 :: _) _ _ _
      refine G_widen (cs' := 0) (sl' := 0) (by omega) (by omega) ?_
      refine G_goto 224 dr_cX17_count__220 (by decide +kernel) ?_
      have ac589113 : (fI (F588589 q588530) 9).toInt = p588539.toInt := by rw [he588592]; rfl
      have ac589114 : (fI (F588589 q588530) 10).toInt = p588540.toInt := by rw [he588592]; rfl
      have ac589115 : (fI (F588589 q588530) 32).toInt = p588551.toInt := by rw [he588592]; rfl
      exact G_iretA dr_cX17_count__224 rfl (Nat.le_of_ble_eq_true rfl) (Nat.le_of_ble_eq_true rfl) ⟨F588589, o589111, rfl, rfl, hT589083, hs588593, (Nat.le_of_ble_eq_true rfl), (Nat.le_of_ble_eq_true rfl), (by omega), (by omega), (by omega), (fun R c1 c2 c3 c4 c5 c6 c7 c8 c9 c10 c11 c12 c13 c14 c15 c16 c17 c18 c19 c20 c21 c22 => c19 F588589 p588540 o589111 n588591 fq588594 ehs589073 fq589074 r589081 fq589082 ht589112)⟩
  by_cases hs589116 : p588531 = 11
  · have ehs589116 : p588531.toInt = 11 := gj_eq hs589116 (show Int32.toInt 11 = 11 by decide)
    have bp588531' : gB p588531 11 11 := ⟨by omega, by omega⟩
    refine G_eqi (y := 11) hs589116 ?_
    refine G_tableIn 225 dr_cX17_count__6 (by decide) (by decide) (by first | rfl | decide) (by decide) ?_
    refine G_aload_n 0 dr_cX17_count__225 rfl ?_
    have fq589117 : fI (F588589 q588530) 10 = p588540 := by rw [he588592]; rfl
    refine Gp_get 10 hm588535 he588592 dr_cX17_count__226 (gk_X17 D I) (Nat.le_of_ble_eq_true rfl) wr_7_84 rfl ?_
    refine G_if_eq 244 dr_cX17_count__229 (by decide +kernel) (fun hc589118 => ?_) (fun hc589118 => ?_)
    · have r589119 : p588540.toInt = 0 := gj_eq hc589118 (show Int32.toInt 0 = 0 by decide)
      have bp588540' : gB p588540 0 0 := gB_t0 r589119
      refine G_iconst 0 dr_cX17_count__244 (by decide +kernel) ?_
      have hT589120 : RS D I P588528 F588589 γ el := RS_set hT n588591 htq588530 (by decide) ⟨q588537, q588538, p588539, p588540, p588541, p588542, p588543, p588544, p588545, p588546, p588547, p588548, p588549, 0, p588551, p588552, p588553, he588592, ⟨bp588539, (gB_w bp588540' (by decide) (by decide)), (hB588580.2.2.1), (hB588580.2.2.2.1), (hB588580.2.2.2.2.1), (hB588580.2.2.2.2.2.1), (hB588580.2.2.2.2.2.2.1), bp588551, (hB588580.2.2.2.2.2.2.2.2)⟩, ht588554, ht588555, ht588556, ht588557, ht588558, ht588559, ht588560, ht588561, ht588562, ht588563, ht588564, ht588565, ht588566, ht588567, ht588568, ht588569, ht588570, ht588571, ht588572, ht588573, ht588574, ht588575, ht588576, ht588577, hB588581⟩
      have ac589121 : (fI (F588589 q588530) 9).toInt = p588539.toInt := by rw [he588592]; rfl
      have ac589122 : (fI (F588589 q588530) 10).toInt = p588540.toInt := by rw [he588592]; rfl
      have ac589123 : (fI (F588589 q588530) 32).toInt = p588551.toInt := by rw [he588592]; rfl
      exact G_iretA dr_cX17_count__245 rfl (Nat.le_of_ble_eq_true rfl) (Nat.le_of_ble_eq_true rfl) ⟨F588589, 0, rfl, rfl, hT589120, hs588593, (Nat.le_of_ble_eq_true rfl), (Nat.le_of_ble_eq_true rfl), (by have qa0 : Int32.toInt 0 = 0 := (by decide); omega), (by have qa0 : Int32.toInt 0 = 0 := (by decide); omega), (by have qa0 : Int32.toInt 0 = 0 := (by decide); omega), (fun R c1 c2 c3 c4 c5 c6 c7 c8 c9 c10 c11 c12 c13 c14 c15 c16 c17 c18 c19 c20 c21 c22 => c20 F588589 p588540 n588591 fq588594 ehs589116 fq589117 r589119)⟩
    · have r589124 : p588540.toInt ≠ 0 := gj_neq hc589118 (show Int32.toInt 0 = 0 by decide)
      have bp588540' : gB p588540 1 1 := gB_t1 bp588540 r589124
      refine G_aload_n 0 dr_cX17_count__232 rfl ?_
      have fq589125 : fR (F588589 q588530) 7 = (γ 9 7) := by rw [he588592]; rfl
      refine Gp_get 7 hm588535 he588592 dr_cX17_count__233 (gk_X17 D I) (Nat.le_of_ble_eq_true rfl) wr_7_81 rfl ?_
      refine G_bipush 23 dr_cX17_count__236 (by decide +kernel) ?_
      have hT589126 : RS D I P588528 F588589 γ el := RS_set hT n588591 htq588530 (by decide) ⟨q588537, q588538, p588539, p588540, p588541, p588542, p588543, p588544, p588545, p588546, p588547, p588548, p588549, 0, p588551, p588552, p588553, he588592, ⟨bp588539, (gB_w bp588540' (by decide) (by decide)), (hB588580.2.2.1), (hB588580.2.2.2.1), (hB588580.2.2.2.2.1), (hB588580.2.2.2.2.2.1), (hB588580.2.2.2.2.2.2.1), bp588551, (hB588580.2.2.2.2.2.2.2.2)⟩, ht588554, ht588555, ht588556, ht588557, ht588558, ht588559, ht588560, ht588561, ht588562, ht588563, ht588564, ht588565, ht588566, ht588567, ht588568, ht588569, ht588570, ht588571, ht588572, ht588573, ht588574, ht588575, ht588576, ht588577, hB588581⟩
      have hm589132 : (γ 9 7) ∈ P588528 := RS_m hT589126 ht588563 (by decide)
      obtain ⟨q589134, q589135, p589136, p589137, he589133, ht589153, ht589138, ht589139, ht589140, ht589141, r589142, r589143, r589144, r589145, r589146, r589147, r589148, r589149, r589150, r589151, r589152⟩ := show rk_9 γ el (γ 9 7) (F588589 (γ 9 7)) from RS_o hT589126 ht588563
      have bp589136 : gB p589136 0 1000000 := ⟨by omega, by omega⟩
      have bp589137 : gB p589137 0 1000000 := ⟨by omega, by omega⟩
      refine Gw_callV (As := [.int 23]) (gV_ok D I) (ct_8782_Code_count l hl0 D I γ el P588528 F588589 (γ 9 7) 23 hT589126 ht588563 (by have qa0 : Int32.toInt 0 = 0 := (by decide); omega)) dr_cX17_count__238 ⟨wr_11_79, wr_1_15, wr_11_82, by decide, rfl, (Nat.le_of_ble_eq_true rfl), (Nat.le_of_ble_eq_true rfl)⟩ wr_11_80 wr_11_81 hm589132 he589133 rfl (show 0 + 0 ≤ 0 by first | omega | decide) (show 0 + 0 ≤ 0 by first | omega | decide) (Nat.le_of_ble_eq_true rfl) (fun r589130 w589131 dc589127 ds589128 hp589129 => ?_) (fun _ _ _ _ _ z => z.elim)
      obtain ⟨o589154, rfl, rfl, hdc, hds, ht589155⟩ := hp589129
      have bo589154 := gB_any o589154
      change G _ _ _ _ _ _ _ (.int o589154 :: _) _ _ _
      refine G_widen (cs' := 0) (sl' := 0) (by omega) (by omega) ?_
      refine G_goto 245 dr_cX17_count__241 (by decide +kernel) ?_
      have ac589156 : (fI (F588589 q588530) 9).toInt = p588539.toInt := by rw [he588592]; rfl
      have ac589157 : (fI (F588589 q588530) 10).toInt = p588540.toInt := by rw [he588592]; rfl
      have ac589158 : (fI (F588589 q588530) 32).toInt = p588551.toInt := by rw [he588592]; rfl
      exact G_iretA dr_cX17_count__245 rfl (Nat.le_of_ble_eq_true rfl) (Nat.le_of_ble_eq_true rfl) ⟨F588589, o589154, rfl, rfl, hT589126, hs588593, (Nat.le_of_ble_eq_true rfl), (Nat.le_of_ble_eq_true rfl), (by omega), (by omega), (by omega), (fun R c1 c2 c3 c4 c5 c6 c7 c8 c9 c10 c11 c12 c13 c14 c15 c16 c17 c18 c19 c20 c21 c22 => c21 F588589 p588540 o589154 n588591 fq588594 ehs589116 fq589117 r589124 fq589125 ht589155)⟩
  have ehs588595 := lv_neT hs588595 (show Int32.toInt 0 = 0 by decide)
  have ehs588637 := lv_neT hs588637 (show Int32.toInt 1 = 1 by decide)
  have ehs588680 := lv_neT hs588680 (show Int32.toInt 2 = 2 by decide)
  have ehs588686 := lv_neT hs588686 (show Int32.toInt 3 = 3 by decide)
  have ehs588692 := lv_neT hs588692 (show Int32.toInt 4 = 4 by decide)
  have ehs588698 := lv_neT hs588698 (show Int32.toInt 5 = 5 by decide)
  have ehs588741 := lv_neT hs588741 (show Int32.toInt 6 = 6 by decide)
  have ehs589031 := lv_neT hs589031 (show Int32.toInt 7 = 7 by decide)
  have ehs589045 := lv_neT hs589045 (show Int32.toInt 8 = 8 by decide)
  have ehs589059 := lv_neT hs589059 (show Int32.toInt 9 = 9 by decide)
  have ehs589073 := lv_neT hs589073 (show Int32.toInt 10 = 10 by decide)
  have ehs589116 := lv_neT hs589116 (show Int32.toInt 11 = 11 by decide)
  refine G_tableOut 246 dr_cX17_count__6 (by omega) (by decide) ?_
  refine G_aload_n 0 dr_cX17_count__246 rfl ?_
  refine G_iconst 1 dr_cX17_count__247 (by decide +kernel) ?_
  have hT589159 : RS D I P588528 F588589 γ el := RS_set hT n588591 htq588530 (by decide) ⟨q588537, q588538, p588539, p588540, p588541, p588542, p588543, p588544, p588545, p588546, p588547, p588548, p588549, 0, p588551, p588552, p588553, he588592, ⟨bp588539, bp588540, (hB588580.2.2.1), (hB588580.2.2.2.1), (hB588580.2.2.2.2.1), (hB588580.2.2.2.2.2.1), (hB588580.2.2.2.2.2.2.1), bp588551, (hB588580.2.2.2.2.2.2.2.2)⟩, ht588554, ht588555, ht588556, ht588557, ht588558, ht588559, ht588560, ht588561, ht588562, ht588563, ht588564, ht588565, ht588566, ht588567, ht588568, ht588569, ht588570, ht588571, ht588572, ht588573, ht588574, ht588575, ht588576, ht588577, hB588581⟩
  have ac589160 : (fI (F588589 q588530) 9).toInt = p588539.toInt := by rw [he588592]; rfl
  have ac589161 : (fI (F588589 q588530) 10).toInt = p588540.toInt := by rw [he588592]; rfl
  have ac589162 : (fI (F588589 q588530) 32).toInt = p588551.toInt := by rw [he588592]; rfl
  refine Gw_callV (As := [.int 1]) (gV_ok D I) (ct_581027_SpillForgeModel_no l hl0 D I γ el P588528 F588589 q588530 1 hT589159 htq588530) dr_cX17_count__248 ⟨wr_7_191, wr_1_14, wr_7_194, by decide, rfl, (Nat.le_of_ble_eq_true rfl), (Nat.le_of_ble_eq_true rfl)⟩ wr_7_193 wr_p_73 hm588535 he588592 rfl (show 0 + 0 ≤ 0 by first | omega | decide) (show 0 + 0 ≤ 0 by first | omega | decide) (Nat.le_of_ble_eq_true rfl) (fun r589166 w589167 dc589163 ds589164 hp589165 => ?_) (fun _ _ _ _ _ z => z.elim)
  obtain ⟨F589173, rfl, rfl, hT589174, hs589175, hdc, hds, x589168, x589169, x589170, x589171, ht589172⟩ := hp589165
  have hs589176 : rStr γ [] F588529 F589173 := rStr_tr hs588593 hs589175
  rw [show Int32.toInt 1 = 1 from by decide] at x589171
  change G _ _ _ _ _ _ _ (.int 0 :: _) _ _ _
  refine G_widen (cs' := 0) (sl' := 0) (by omega) (by omega) ?_
  have hm589177 : q588530 ∈ P588528 := RS_m hT589174 htq588530 (by decide)
  refine rk10_e (show rk_10 γ (F589173 q588530) from RS_o hT589174 htq588530) (fun q589179 q589180 p589181 p589182 p589183 p589184 p589185 p589186 p589187 p589188 p589189 p589190 p589191 p589192 p589193 p589194 p589195 he589178 hB589222 ht589196 ht589197 ht589198 ht589199 ht589200 ht589201 ht589202 ht589203 ht589204 ht589205 ht589206 ht589207 ht589208 ht589209 ht589210 ht589211 ht589212 ht589213 ht589214 ht589215 ht589216 ht589217 ht589218 ht589219 hB589223 => ?_)
  have ac589224 : (fI (F589173 q588530) 9).toInt = p589181.toInt := by rw [he589178]; rfl
  have bp589181 : gB p589181 0 1 := (hB589222.1)
  have ac589225 : (fI (F589173 q588530) 10).toInt = p589182.toInt := by rw [he589178]; rfl
  have bp589182 : gB p589182 0 1 := (hB589222.2.1)
  have ac589226 : (fI (F589173 q588530) 32).toInt = p589193.toInt := by rw [he589178]; rfl
  have bp589193 : gB p589193 0 8192 := (hB589222.2.2.2.2.2.2.2.1)
  have ac589227 : (fI (F589173 q588530) 9).toInt = p589181.toInt := by rw [he589178]; rfl
  have ac589228 : (fI (F589173 q588530) 10).toInt = p589182.toInt := by rw [he589178]; rfl
  have ac589229 : (fI (F589173 q588530) 32).toInt = p589193.toInt := by rw [he589178]; rfl
  exact G_iretA dr_cX17_count__251 rfl (Nat.le_of_ble_eq_true rfl) (Nat.le_of_ble_eq_true rfl) ⟨F589173, 0, rfl, rfl, hT589174, hs589176, (Nat.le_of_ble_eq_true rfl), (Nat.le_of_ble_eq_true rfl), (by have qa0 : Int32.toInt 0 = 0 := (by decide); omega), (by have qa0 : Int32.toInt 0 = 0 := (by decide); omega), (by have qa0 : Int32.toInt 0 = 0 := (by decide); omega), (fun R c1 c2 c3 c4 c5 c6 c7 c8 c9 c10 c11 c12 c13 c14 c15 c16 c17 c18 c19 c20 c21 c22 => c22 F588589 F589173 n588591 fq588594 ehs588595 ehs588637 ehs588680 ehs588686 ehs588692 ehs588698 ehs588741 ehs589031 ehs589045 ehs589059 ehs589073 ehs589116 hT589174 hs589175 x589168 x589169 x589170 x589171 ht589172)⟩
/- tl_RModel_word2_29: l4, l2; out: l2 -/
def tl_RModel_word2_29 (D : va_G) (I : FieldType → ClassId) (γ el : Nat → Nat → Nat) (a1 : Int32) (c1 : Nat → va_E) (q0 : Nat) (s1 : Int32) (s2 : Int64) (k : Nat) (e1 : Int64) : Prop := ∀ R : (Int32) → (Int64) → Nat → (Int64) → Prop,
  (∀ (l4_1 : Int32) (l2_1 : Int64), gB l4_1 0 8 → 8 ≤ l4_1.toInt → R l4_1 l2_1 77 l2_1) →
  (∀ (l4_1 : Int32) (l2_1 : Int64) (x1 : Int64) (x2 : Int32) (x3 : Int32) (x4 : Int64) (x5 : Int64) (x6 : Int32) (k : Nat) (e1 : Int64), gB l4_1 0 8 → l4_1.toInt < 8 → x1 = l2_1 <<< ((8 : Int32).toInt64 &&& 63) → x2.toInt = a1.toInt + l4_1.toInt → fI (c1 q0) 34 = x3 → x3.toInt ≤ x2.toInt → x4 = (0 : Int32).toInt64 → x5 = x1 ||| x4 → x6.toInt = l4_1.toInt + 1 → R x6 x5 k e1 → R l4_1 l2_1 k e1) →
  (∀ (l4_1 : Int32) (l2_1 : Int64) (x1 : Int64) (x2 : Int32) (x3 : Int32) (x4 : Nat) (x5 : Int32) (x6 : Nat → Int32) (x7 : Nat) (x8 : Int32) (x9 : Int32) (x10 : Int64) (x11 : Int64) (x12 : Int32) (k : Nat) (e1 : Int64), gB l4_1 0 8 → l4_1.toInt < 8 → x1 = l2_1 <<< ((8 : Int32).toInt64 &&& 63) → x2.toInt = a1.toInt + l4_1.toInt → fI (c1 q0) 34 = x3 → x2.toInt < x3.toInt → fR (c1 q0) 35 = x4 → x5.toInt = a1.toInt + l4_1.toInt → c1 x4 = .inl (I .byte, x7, .inl x6) → x8 = x6 x5.toNatClampNeg → gB x8 (-128) 127 → x9 = x8 &&& (255 : Int32) → x10 = x9.toInt64 → x11 = x1 ||| x10 → x12.toInt = l4_1.toInt + 1 → R x12 x11 k e1 → R l4_1 l2_1 k e1) →
  R s1 s2 k e1
/- tr_RModel_word2: result, F -/
def tr_RModel_word2 (D : va_G) (I : FieldType → ClassId) (γ el : Nat → Nat → Nat) (P : List Nat) (F : Nat → va_E) (q0 : Nat) (a1 : Int32) (o1 : Int64) (o2 : Nat → va_E) : Prop := ∀ R : (Int64) → (Nat → va_E) → Prop,
  (∀ (x1 : Nat → va_E) (x2 : Nat → va_E) (x3 : Int64), (∀ b, b ≠ q0 → x1 b = F b) → x1 q0 = cF (F q0) 30 (.int 0) → a1.toInt < 0 → RS D I P x2 γ el → rStr γ [] x1 x2 → (fI (x2 q0) 9).toInt = (fI (x1 q0) 9).toInt → (fI (x2 q0) 10).toInt = (fI (x1 q0) 10).toInt → (fI (x2 q0) 32).toInt = (fI (x1 q0) 32).toInt → (fI (x2 q0) 30).toInt = 1 → tr_RModel_no D I γ el x1 q0 (1 : Int32) x2 → x3 = (0 : Int32).toInt64 → R x3 x2) →
  (∀ (x1 : Nat → va_E) (x2 : Int32) (x3 : Int64), (∀ b, b ≠ q0 → x1 b = F b) → x1 q0 = cF (F q0) 30 (.int 0) → 0 ≤ a1.toInt → fI (x1 q0) 34 = x2 → a1.toInt < x2.toInt → tl_RModel_word2_29 D I γ el a1 x1 q0 (0 : Int32) (0 : Int64) 77 x3 → R x3 x1) →
  (∀ (x1 : Nat → va_E) (x2 : Int32) (x3 : Nat → va_E) (x4 : Int64), (∀ b, b ≠ q0 → x1 b = F b) → x1 q0 = cF (F q0) 30 (.int 0) → 0 ≤ a1.toInt → fI (x1 q0) 34 = x2 → x2.toInt ≤ a1.toInt → RS D I P x3 γ el → rStr γ [] x1 x3 → (fI (x3 q0) 9).toInt = (fI (x1 q0) 9).toInt → (fI (x3 q0) 10).toInt = (fI (x1 q0) 10).toInt → (fI (x3 q0) 32).toInt = (fI (x1 q0) 32).toInt → (fI (x3 q0) 30).toInt = 1 → tr_RModel_no D I γ el x1 q0 (1 : Int32) x3 → x4 = (0 : Int32).toInt64 → R x4 x3) →
  R o1 o2
