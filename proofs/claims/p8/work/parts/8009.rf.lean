theorem dr_cX17_colourCount_0 : decode cX17_colourCount 0 = .ok (.iconst 0, 1) := by decide +kernel
theorem dr_cX17_colourCount_1 : decode cX17_colourCount 1 = .ok (.istore_n 1, 1) := by decide +kernel
theorem dr_cX17_colourCount_2 : decode cX17_colourCount 2 = .ok (.aload_n 0, 1) := by decide +kernel
theorem dr_cX17_colourCount_3 : decode cX17_colourCount 3 = .ok (.aload_n 0, 1) := by decide +kernel
theorem dr_cX17_colourCount_4 : decode cX17_colourCount 4 = .ok (.getfield 365, 3) := by decide +kernel
theorem dr_cX17_colourCount_7 : decode cX17_colourCount 7 = .ok (.iconst 0, 1) := by decide +kernel
theorem dr_cX17_colourCount_8 : decode cX17_colourCount 8 = .ok (.invokevirtual 243, 3) := by decide +kernel
theorem dr_cX17_colourCount_11 : decode cX17_colourCount 11 = .ok (.iconst 0, 1) := by decide +kernel
theorem dr_cX17_colourCount_12 : decode cX17_colourCount 12 = .ok (.istore_n 2, 1) := by decide +kernel
theorem dr_cX17_colourCount_13 : decode cX17_colourCount 13 = .ok (.iload_n 2, 1) := by decide +kernel
theorem dr_cX17_colourCount_14 : decode cX17_colourCount 14 = .ok (.sipush 2000, 3) := by decide +kernel
theorem dr_cX17_colourCount_17 : decode cX17_colourCount 17 = .ok (.if_icmp .ge 26, 3) := by decide +kernel
theorem dr_cX17_colourCount_43 : decode cX17_colourCount 43 = .ok (.iload_n 1, 1) := by decide +kernel
theorem dr_cX17_colourCount_44 : decode cX17_colourCount 44 = .ok (.ireturn, 1) := by decide +kernel
theorem dr_cX17_colourCount_20 : decode cX17_colourCount 20 = .ok (.iload_n 1, 1) := by decide +kernel
theorem dr_cX17_colourCount_21 : decode cX17_colourCount 21 = .ok (.aload_n 0, 1) := by decide +kernel
theorem dr_cX17_colourCount_22 : decode cX17_colourCount 22 = .ok (.getfield 131, 3) := by decide +kernel
theorem dr_cX17_colourCount_25 : decode cX17_colourCount 25 = .ok (.iload_n 2, 1) := by decide +kernel
theorem dr_cX17_colourCount_26 : decode cX17_colourCount 26 = .ok (.baload, 1) := by decide +kernel
theorem dr_cX17_colourCount_27 : decode cX17_colourCount 27 = .ok (.ifCond .eq 7, 3) := by decide +kernel
theorem dr_cX17_colourCount_34 : decode cX17_colourCount 34 = .ok (.iconst 0, 1) := by decide +kernel
theorem dr_cX17_colourCount_35 : decode cX17_colourCount 35 = .ok (.iadd, 1) := by decide +kernel
theorem dr_cX17_colourCount_36 : decode cX17_colourCount 36 = .ok (.istore_n 1, 1) := by decide +kernel
theorem dr_cX17_colourCount_37 : decode cX17_colourCount 37 = .ok (.iinc 2 1, 3) := by decide +kernel
theorem dr_cX17_colourCount_40 : decode cX17_colourCount 40 = .ok (.goto (-27), 3) := by decide +kernel
theorem dr_cX17_colourCount_30 : decode cX17_colourCount 30 = .ok (.iconst 1, 1) := by decide +kernel
theorem dr_cX17_colourCount_31 : decode cX17_colourCount 31 = .ok (.goto 4, 3) := by decide +kernel
theorem dr_cX17_count__0 : decode cX17_count_ 0 = .ok (.aload_n 0, 1) := by decide +kernel
theorem dr_cX17_count__1 : decode cX17_count_ 1 = .ok (.iconst 0, 1) := by decide +kernel
theorem dr_cX17_count__2 : decode cX17_count_ 2 = .ok (.putfield 380, 3) := by decide +kernel
theorem dr_cX17_count__5 : decode cX17_count_ 5 = .ok (.iload_n 1, 1) := by decide +kernel
theorem dr_cX17_count__6 : decode cX17_count_ 6 = .ok (.tableswitch 240 0 11 #[62, 81, 100, 105, 110, 115, 134, 150, 166, 182, 198, 219], 62) := by decide +kernel
theorem dr_cX17_count__68 : decode cX17_count_ 68 = .ok (.aload_n 0, 1) := by decide +kernel
theorem dr_cX17_count__69 : decode cX17_count_ 69 = .ok (.getfield 414, 3) := by decide +kernel
theorem dr_cX17_count__72 : decode cX17_count_ 72 = .ok (.ifCond .eq 13, 3) := by decide +kernel
theorem dr_cX17_count__85 : decode cX17_count_ 85 = .ok (.iconst 0, 1) := by decide +kernel
theorem dr_cX17_count__86 : decode cX17_count_ 86 = .ok (.ireturn, 1) := by decide +kernel
theorem dr_cX17_count__75 : decode cX17_count_ 75 = .ok (.aload_n 0, 1) := by decide +kernel
theorem dr_cX17_count__76 : decode cX17_count_ 76 = .ok (.getfield 361, 3) := by decide +kernel
theorem dr_cX17_count__79 : decode cX17_count_ 79 = .ok (.invokevirtual 96, 3) := by decide +kernel
theorem dr_cX17_count__82 : decode cX17_count_ 82 = .ok (.goto 4, 3) := by decide +kernel
theorem dr_cX17_count__87 : decode cX17_count_ 87 = .ok (.aload_n 0, 1) := by decide +kernel
theorem dr_cX17_count__88 : decode cX17_count_ 88 = .ok (.getfield 414, 3) := by decide +kernel
theorem dr_cX17_count__91 : decode cX17_count_ 91 = .ok (.ifCond .eq 13, 3) := by decide +kernel
theorem dr_cX17_count__104 : decode cX17_count_ 104 = .ok (.iconst 0, 1) := by decide +kernel
theorem dr_cX17_count__105 : decode cX17_count_ 105 = .ok (.ireturn, 1) := by decide +kernel
theorem dr_cX17_count__94 : decode cX17_count_ 94 = .ok (.aload_n 0, 1) := by decide +kernel
theorem dr_cX17_count__95 : decode cX17_count_ 95 = .ok (.getfield 361, 3) := by decide +kernel
theorem dr_cX17_count__98 : decode cX17_count_ 98 = .ok (.invokevirtual 234, 3) := by decide +kernel
theorem wr_10_229 : (Jvm.Cond.methodLink "SpillForgeModel" (234 : Nat) ({ cls := "SpillForgeModel$Code", name := "countRows", desc := "()I" } : Jvm.MethodName)) ∈ gw := gw_10 229 rfl rfl
theorem wr_10_232 : (Jvm.Cond.code ({ cls := "SpillForgeModel$Code", name := "countRows", desc := "()I" } : Jvm.MethodName) prog_16_method_7_code (3 : Nat) (Option.some Jvm.ClassFile.FieldType.int)) ∈ gw := gw_10 232 rfl rfl
theorem wr_10_230 : (Jvm.Cond.instanceMethod ({ cls := "SpillForgeModel$Code", name := "countRows", desc := "()I" } : Jvm.MethodName)) ∈ gw := gw_10 230 rfl rfl
theorem wr_10_231 : (Jvm.Cond.selects "SpillForgeModel$Code" ({ cls := "SpillForgeModel$Code", name := "countRows", desc := "()I" } : Jvm.MethodName) ({ cls := "SpillForgeModel$Code", name := "countRows", desc := "()I" } : Jvm.MethodName)) ∈ gw := gw_10 231 rfl rfl
theorem dr_cX17_count__101 : decode cX17_count_ 101 = .ok (.goto 4, 3) := by decide +kernel
theorem dr_cX17_count__106 : decode cX17_count_ 106 = .ok (.aload_n 0, 1) := by decide +kernel
theorem dr_cX17_count__107 : decode cX17_count_ 107 = .ok (.getfield 392, 3) := by decide +kernel
theorem wr_7_107 : (Jvm.Cond.fieldLink "SpillForgeModel" (392 : Nat) "SpillForgeModel" "reason" "I") ∈ gw := gw_7 107 rfl rfl
theorem dr_cX17_count__110 : decode cX17_count_ 110 = .ok (.ireturn, 1) := by decide +kernel
theorem dr_cX17_count__111 : decode cX17_count_ 111 = .ok (.aload_n 0, 1) := by decide +kernel
theorem dr_cX17_count__112 : decode cX17_count_ 112 = .ok (.getfield 383, 3) := by decide +kernel
theorem dr_cX17_count__115 : decode cX17_count_ 115 = .ok (.ireturn, 1) := by decide +kernel
theorem dr_cX17_count__116 : decode cX17_count_ 116 = .ok (.aload_n 0, 1) := by decide +kernel
theorem dr_cX17_count__117 : decode cX17_count_ 117 = .ok (.getfield 426, 3) := by decide +kernel
theorem wr_7_108 : (Jvm.Cond.fieldLink "SpillForgeModel" (426 : Nat) "SpillForgeModel" "results" "I") ∈ gw := gw_7 108 rfl rfl
theorem dr_cX17_count__120 : decode cX17_count_ 120 = .ok (.ireturn, 1) := by decide +kernel
theorem dr_cX17_count__121 : decode cX17_count_ 121 = .ok (.aload_n 0, 1) := by decide +kernel
theorem dr_cX17_count__122 : decode cX17_count_ 122 = .ok (.getfield 416, 3) := by decide +kernel
theorem dr_cX17_count__125 : decode cX17_count_ 125 = .ok (.ifCond .eq 13, 3) := by decide +kernel
theorem dr_cX17_count__138 : decode cX17_count_ 138 = .ok (.iconst 0, 1) := by decide +kernel
theorem dr_cX17_count__139 : decode cX17_count_ 139 = .ok (.ireturn, 1) := by decide +kernel
theorem dr_cX17_count__128 : decode cX17_count_ 128 = .ok (.aload_n 0, 1) := by decide +kernel
theorem dr_cX17_count__129 : decode cX17_count_ 129 = .ok (.getfield 365, 3) := by decide +kernel
theorem dr_cX17_count__132 : decode cX17_count_ 132 = .ok (.invokevirtual 234, 3) := by decide +kernel
theorem dr_cX17_count__135 : decode cX17_count_ 135 = .ok (.goto 4, 3) := by decide +kernel
theorem dr_cX17_count__140 : decode cX17_count_ 140 = .ok (.aload_n 0, 1) := by decide +kernel
theorem dr_cX17_count__141 : decode cX17_count_ 141 = .ok (.getfield 416, 3) := by decide +kernel
theorem dr_cX17_count__144 : decode cX17_count_ 144 = .ok (.ifCond .eq 10, 3) := by decide +kernel
theorem dr_cX17_count__154 : decode cX17_count_ 154 = .ok (.iconst 0, 1) := by decide +kernel
theorem dr_cX17_count__155 : decode cX17_count_ 155 = .ok (.ireturn, 1) := by decide +kernel
theorem dr_cX17_count__147 : decode cX17_count_ 147 = .ok (.aload_n 0, 1) := by decide +kernel
theorem dr_cX17_count__148 : decode cX17_count_ 148 = .ok (.invokevirtual 429, 3) := by decide +kernel
theorem wr_11_75 : (Jvm.Cond.methodLink "SpillForgeModel" (429 : Nat) ({ cls := "SpillForgeModel", name := "colourCount", desc := "()I" } : Jvm.MethodName)) ∈ gw := gw_11 75 rfl rfl
theorem wr_11_78 : (Jvm.Cond.code ({ cls := "SpillForgeModel", name := "colourCount", desc := "()I" } : Jvm.MethodName) prog_14_method_44_code (3 : Nat) (Option.some Jvm.ClassFile.FieldType.int)) ∈ gw := gw_11 78 rfl rfl
theorem wr_11_77 : (Jvm.Cond.instanceMethod ({ cls := "SpillForgeModel", name := "colourCount", desc := "()I" } : Jvm.MethodName)) ∈ gw := gw_11 77 rfl rfl
theorem wr_p_112 : Cond.selects "SpillForgeModel" ⟨"SpillForgeModel", "colourCount", "()I"⟩ ⟨"SpillForgeModel", "colourCount", "()I"⟩ ∈ gw := gw_p _ 112 rfl rfl rfl
theorem dr_cX17_count__151 : decode cX17_count_ 151 = .ok (.goto 4, 3) := by decide +kernel
theorem dr_cX17_count__156 : decode cX17_count_ 156 = .ok (.aload_n 0, 1) := by decide +kernel
theorem dr_cX17_count__157 : decode cX17_count_ 157 = .ok (.getfield 416, 3) := by decide +kernel
theorem dr_cX17_count__160 : decode cX17_count_ 160 = .ok (.ifCond .eq 10, 3) := by decide +kernel
theorem dr_cX17_count__170 : decode cX17_count_ 170 = .ok (.iconst 0, 1) := by decide +kernel
theorem dr_cX17_count__171 : decode cX17_count_ 171 = .ok (.ireturn, 1) := by decide +kernel
theorem dr_cX17_count__163 : decode cX17_count_ 163 = .ok (.aload_n 0, 1) := by decide +kernel
theorem dr_cX17_count__164 : decode cX17_count_ 164 = .ok (.getfield 224, 3) := by decide +kernel
theorem dr_cX17_count__167 : decode cX17_count_ 167 = .ok (.goto 4, 3) := by decide +kernel
theorem dr_cX17_count__172 : decode cX17_count_ 172 = .ok (.aload_n 0, 1) := by decide +kernel
theorem dr_cX17_count__173 : decode cX17_count_ 173 = .ok (.getfield 416, 3) := by decide +kernel
theorem dr_cX17_count__176 : decode cX17_count_ 176 = .ok (.ifCond .eq 10, 3) := by decide +kernel
theorem dr_cX17_count__186 : decode cX17_count_ 186 = .ok (.iconst 0, 1) := by decide +kernel
theorem dr_cX17_count__187 : decode cX17_count_ 187 = .ok (.ireturn, 1) := by decide +kernel
theorem dr_cX17_count__179 : decode cX17_count_ 179 = .ok (.aload_n 0, 1) := by decide +kernel
theorem dr_cX17_count__180 : decode cX17_count_ 180 = .ok (.getfield 237, 3) := by decide +kernel
theorem wr_7_86 : (Jvm.Cond.fieldLink "SpillForgeModel" (237 : Nat) "SpillForgeModel" "spilled" "I") ∈ gw := gw_7 86 rfl rfl
theorem dr_cX17_count__183 : decode cX17_count_ 183 = .ok (.goto 4, 3) := by decide +kernel
theorem dr_cX17_count__188 : decode cX17_count_ 188 = .ok (.aload_n 0, 1) := by decide +kernel
theorem dr_cX17_count__189 : decode cX17_count_ 189 = .ok (.getfield 416, 3) := by decide +kernel
theorem dr_cX17_count__192 : decode cX17_count_ 192 = .ok (.ifCond .eq 10, 3) := by decide +kernel
theorem dr_cX17_count__202 : decode cX17_count_ 202 = .ok (.iconst 0, 1) := by decide +kernel
theorem dr_cX17_count__203 : decode cX17_count_ 203 = .ok (.ireturn, 1) := by decide +kernel
theorem dr_cX17_count__195 : decode cX17_count_ 195 = .ok (.aload_n 0, 1) := by decide +kernel
theorem dr_cX17_count__196 : decode cX17_count_ 196 = .ok (.getfield 195, 3) := by decide +kernel
theorem dr_cX17_count__199 : decode cX17_count_ 199 = .ok (.goto 4, 3) := by decide +kernel
theorem dr_cX17_count__204 : decode cX17_count_ 204 = .ok (.aload_n 0, 1) := by decide +kernel
theorem dr_cX17_count__205 : decode cX17_count_ 205 = .ok (.getfield 416, 3) := by decide +kernel
theorem dr_cX17_count__208 : decode cX17_count_ 208 = .ok (.ifCond .eq 15, 3) := by decide +kernel
theorem dr_cX17_count__223 : decode cX17_count_ 223 = .ok (.iconst 0, 1) := by decide +kernel
theorem dr_cX17_count__224 : decode cX17_count_ 224 = .ok (.ireturn, 1) := by decide +kernel
theorem dr_cX17_count__211 : decode cX17_count_ 211 = .ok (.aload_n 0, 1) := by decide +kernel
theorem dr_cX17_count__212 : decode cX17_count_ 212 = .ok (.getfield 365, 3) := by decide +kernel
theorem dr_cX17_count__215 : decode cX17_count_ 215 = .ok (.bipush 21, 2) := by decide +kernel
theorem dr_cX17_count__217 : decode cX17_count_ 217 = .ok (.invokevirtual 432, 3) := by decide +kernel
theorem wr_11_79 : (Jvm.Cond.methodLink "SpillForgeModel" (432 : Nat) ({ cls := "SpillForgeModel$Code", name := "count", desc := "(I)I" } : Jvm.MethodName)) ∈ gw := gw_11 79 rfl rfl
theorem wr_11_82 : (Jvm.Cond.code ({ cls := "SpillForgeModel$Code", name := "count", desc := "(I)I" } : Jvm.MethodName) prog_16_method_8_code (5 : Nat) (Option.some Jvm.ClassFile.FieldType.int)) ∈ gw := gw_11 82 rfl rfl
theorem wr_11_80 : (Jvm.Cond.instanceMethod ({ cls := "SpillForgeModel$Code", name := "count", desc := "(I)I" } : Jvm.MethodName)) ∈ gw := gw_11 80 rfl rfl
theorem wr_11_81 : (Jvm.Cond.selects "SpillForgeModel$Code" ({ cls := "SpillForgeModel$Code", name := "count", desc := "(I)I" } : Jvm.MethodName) ({ cls := "SpillForgeModel$Code", name := "count", desc := "(I)I" } : Jvm.MethodName)) ∈ gw := gw_11 81 rfl rfl
theorem dr_cX17_count__220 : decode cX17_count_ 220 = .ok (.goto 4, 3) := by decide +kernel
theorem dr_cX17_count__225 : decode cX17_count_ 225 = .ok (.aload_n 0, 1) := by decide +kernel
theorem dr_cX17_count__226 : decode cX17_count_ 226 = .ok (.getfield 416, 3) := by decide +kernel
theorem dr_cX17_count__229 : decode cX17_count_ 229 = .ok (.ifCond .eq 15, 3) := by decide +kernel
theorem dr_cX17_count__244 : decode cX17_count_ 244 = .ok (.iconst 0, 1) := by decide +kernel
theorem dr_cX17_count__245 : decode cX17_count_ 245 = .ok (.ireturn, 1) := by decide +kernel
theorem dr_cX17_count__232 : decode cX17_count_ 232 = .ok (.aload_n 0, 1) := by decide +kernel
theorem dr_cX17_count__233 : decode cX17_count_ 233 = .ok (.getfield 365, 3) := by decide +kernel
theorem dr_cX17_count__236 : decode cX17_count_ 236 = .ok (.bipush 23, 2) := by decide +kernel
theorem dr_cX17_count__238 : decode cX17_count_ 238 = .ok (.invokevirtual 432, 3) := by decide +kernel
theorem dr_cX17_count__241 : decode cX17_count_ 241 = .ok (.goto 4, 3) := by decide +kernel
theorem dr_cX17_count__246 : decode cX17_count_ 246 = .ok (.aload_n 0, 1) := by decide +kernel
theorem dr_cX17_count__247 : decode cX17_count_ 247 = .ok (.iconst 1, 1) := by decide +kernel
theorem dr_cX17_count__248 : decode cX17_count_ 248 = .ok (.invokevirtual 385, 3) := by decide +kernel
theorem dr_cX17_count__251 : decode cX17_count_ 251 = .ok (.ireturn, 1) := by decide +kernel
abbrev ky_586023_SpillForgeModel_colourCount : gKey := (cX17_colourCount, 3, "SpillForgeModel", (some FieldType.int), [], "colourCount", fun _ _ => True)
def pt_586023_SpillForgeModel_colourCount (D : va_G) (I : FieldType → ClassId) (γ el : Nat → Nat → Nat) (P586019 : List Nat) (F586020 : Nat → va_E) (q586021 : Nat) : Option Value → va_W → Nat → Nat → Prop := fun r w dc ds => ∃ (F586275 : Nat → va_E) (o586274 : Int32), r = some (.int o586274) ∧ w = va_pl P586019 F586275 ∧ RS D I P586019 F586275 γ el ∧ rStr γ [] F586020 F586275 ∧ dc ≤ 0 ∧ ds ≤ 0 ∧ (F586275 q586021 = F586020 q586021)
set_option maxRecDepth 100000 in
set_option maxHeartbeats 4000000 in
theorem ct_586023_SpillForgeModel_colourCount (l : Launch) (hl0 : l.stackTraces = false) (D : va_G) (I : FieldType → ClassId) (γ el : Nat → Nat → Nat) (P586019 : List Nat) (F586020 : Nat → va_E) (q586021 : Nat) (hT : RS D I P586019 F586020 γ el) (htq586021 : rKd γ q586021 10) (x586022 : 0 < γ 6 1) : CtA (gV D I) l yX17_colourCount cX17_colourCount 3 (some FieldType.int) 6 141 0 0 [.ref q586021] (va_pl P586019 F586020) (pt_586023_SpillForgeModel_colourCount D I γ el P586019 F586020 q586021) gNA := by
  refine CtA_of hl0 (by decide) (Nat.le_of_ble_eq_true rfl) ?_
  have hm586024 : q586021 ∈ P586019 := RS_m hT htq586021 (by decide)
  refine rk10_e (show rk_10 γ (F586020 q586021) from RS_o hT htq586021) (fun q586026 q586027 p586028 p586029 p586030 p586031 p586032 p586033 p586034 p586035 p586036 p586037 p586038 p586039 p586040 p586041 p586042 he586025 hB586069 ht586043 ht586044 ht586045 ht586046 ht586047 ht586048 ht586049 ht586050 ht586051 ht586052 ht586053 ht586054 ht586055 ht586056 ht586057 ht586058 ht586059 ht586060 ht586061 ht586062 ht586063 ht586064 ht586065 ht586066 hB586070 => ?_)
  have fq586071 : γ 6 (γ 1 (γ 9 6)) = γ 6 0 := by rw [show γ 1 (γ 9 6) = 0 from ht586064]
  have fq586072 : γ 6 (γ 1 (γ 9 7)) = γ 6 1 := by rw [show γ 1 (γ 9 7) = 1 from ht586065]
  have fq586073 : γ 6 (γ 1 (γ 9 8)) = γ 6 2 := by rw [show γ 1 (γ 9 8) = 2 from ht586066]
  have r586074 : p586042.toInt ≤ γ 12 q586027 := by have z := hB586070; unfold rM2 at z; exact z.2.2
  refine G_iconst 0 dr_cX17_colourCount_0 (by decide +kernel) ?_
  refine G_istore_n (L' := [(1, .int 0), (0, .ref q586021)]) dr_cX17_colourCount_1 (Nat.le_of_ble_eq_true rfl) rfl ?_
  refine G_aload_n 1 dr_cX17_colourCount_2 rfl ?_
  refine G_aload_n 1 dr_cX17_colourCount_3 rfl ?_
  refine Gp_get 7 hm586024 he586025 dr_cX17_colourCount_4 (gk_X17 D I) (Nat.le_of_ble_eq_true rfl) wr_7_81 rfl ?_
  refine G_iconst 0 dr_cX17_colourCount_7 (by decide +kernel) ?_
  refine Gw_callV (As := [.ref (γ 9 7), .int 0]) (gV_ok D I) (ct_276669_SpillForgeModel_graph l hl0 D I γ el P586019 F586020 q586021 (γ 9 7) 0 hT htq586021 ht586052 (gB_w (gBl (show Int32.toInt 0 = 0 by decide)) (by decide) (by decide)) (by have qa0 : Int32.toInt 0 = 0 := (by decide); omega)) dr_cX17_colourCount_8 ⟨wr_10_233, wr_1_14, wr_10_236, by decide, rfl, (Nat.le_of_ble_eq_true rfl), (Nat.le_of_ble_eq_true rfl)⟩ wr_10_235 wr_p_99 hm586024 he586025 rfl (show 0 + 0 ≤ 0 by first | omega | decide) (show 0 + 0 ≤ 0 by first | omega | decide) (Nat.le_of_ble_eq_true rfl) (fun r586078 w586079 dc586075 ds586076 hp586077 => ?_) (fun _ _ _ _ _ z => z.elim)
  obtain ⟨F586083, rfl, rfl, hT586084, hs586085, hdc, hds, x586080, x586081, ht586082⟩ := hp586077
  have hs586086 : rStr γ [] F586020 F586083 := rStr_tr (rStr_rf (γ := γ) (W := []) (F := F586020)) hs586085
  have kp586087 : F586083 q586021 = F586020 q586021 := x586081
  have he586088 : F586083 q586021 = .inr (22, [.ref (γ 9 0), .ref (γ 9 1), .ref (γ 9 2), .ref (γ 9 3), .ref (γ 9 4), .ref (γ 9 5), .ref (γ 9 6), .ref (γ 9 7), .ref (γ 9 8), .int p586028, .int p586029, .int p586030, .int p586031, .int p586032, .int p586033, .ref (γ 9 15), .ref (γ 9 16), .ref (γ 9 17), .ref (γ 9 18), .ref (γ 9 19), .ref (γ 9 20), .ref (γ 9 21), .ref (γ 9 22), .int p586034, .int p586035, .int p586036, .int p586037, .int p586038, .ref q586026, .ref (γ 9 29), .int p586039, .ref (γ 9 31), .int p586040, .int p586041, .int p586042, .ref q586027]) := (x586081).trans he586025
  rw [show Int32.toInt 0 = 0 from by decide] at x586080
  change G _ _ _ _ _ _ _ _ _ _ _
  refine G_widen (cs' := 0) (sl' := 0) (by omega) (by omega) ?_
  refine G_iconst 0 dr_cX17_colourCount_11 (by decide +kernel) ?_
  refine G_istore_n (L' := [(2, .int 0), (1, .int 0), (0, .ref q586021)]) dr_cX17_colourCount_12 (Nat.le_of_ble_eq_true rfl) rfl ?_
  have hlp13_586258 : ∀ (n13_586258 : Nat) (g586257 : Int32) (g586258 : Int32), gB g586257 0 2000 → ((2001 : Int) - g586257.toInt).toNat < n13_586258 → G (gV D I) l (gRm 6 141 0 0) (gMA (gV D I) (pt_586023_SpillForgeModel_colourCount D I γ el P586019 F586020 q586021) gNA 0 0) ky_586023_SpillForgeModel_colourCount 13 [(2, .int g586257), (1, .int g586258), (0, .ref q586021)] [] (va_pl P586019 F586083) 0 0 := by
    intro n13_586258
    induction n13_586258 with
    | zero => intro g586257 g586258 bg586257 hm13_586258; exact absurd hm13_586258 (Nat.not_lt_zero _)
    | succ n13_586258 ih13_586258 =>
      intro g586257 g586258 bg586257 hm13_586258
      have bg586258 := gB_any g586258
      refine G_iload_n 0 dr_cX17_colourCount_13 rfl ?_
      refine G_sipush 2000 dr_cX17_colourCount_14 (by decide +kernel) ?_
      refine G_icmp_ge 43 dr_cX17_colourCount_17 (by decide +kernel) (fun hc586260 => ?_) (fun hc586260 => ?_)
      · have r586261 : 2000 ≤ g586257.toInt := gj_leL hc586260 (show Int32.toInt 2000 = 2000 by decide)
        have bg586257' : gB g586257 2000 2000 := ⟨by omega, by omega⟩
        refine G_iload_n 1 dr_cX17_colourCount_43 rfl ?_
        exact G_iretA dr_cX17_colourCount_44 rfl (Nat.le_of_ble_eq_true rfl) (Nat.le_of_ble_eq_true rfl) ⟨F586083, g586258, rfl, rfl, hT586084, hs586086, (Nat.le_of_ble_eq_true rfl), (Nat.le_of_ble_eq_true rfl), kp586087⟩
      · have r586262 : g586257.toInt < 2000 := gj_nleL hc586260 (show Int32.toInt 2000 = 2000 by decide)
        have bg586257' : gB g586257 0 1999 := ⟨by omega, by omega⟩
        refine G_iload_n 1 dr_cX17_colourCount_20 rfl ?_
        refine G_aload_n 2 dr_cX17_colourCount_21 rfl ?_
        refine Gp_get 3 hm586024 he586088 dr_cX17_colourCount_22 (gk_X17 D I) (Nat.le_of_ble_eq_true rfl) wr_7_77 rfl ?_
        refine G_iload_n 0 dr_cX17_colourCount_25 rfl ?_
        have hm586263 : (γ 9 3) ∈ P586019 := RS_m hT586084 ht586048 (by decide)
        obtain ⟨f586265, he586264, bf586265⟩ := show rk_14 I (F586083 (γ 9 3)) from RS_o hT586084 ht586048
        refine Gp_zald 3 hm586263 he586264 dr_cX17_colourCount_26 rfl (gB_in bg586257' (by decide) (by decide)) (G_nam fun z586266 hz586266 => ?_)
        have bz586266 : gB z586266 0 1 := by rw [hz586266]; exact bf586265 _
        refine G_if_eq 34 dr_cX17_colourCount_27 (by decide +kernel) (fun hc586267 => ?_) (fun hc586267 => ?_)
        · have r586268 : z586266.toInt = 0 := gj_eq hc586267 (show Int32.toInt 0 = 0 by decide)
          have bz586266' : gB z586266 0 0 := gB_t0 r586268
          refine G_iconst 0 dr_cX17_colourCount_34 (by decide +kernel) ?_
          refine G_iadd dr_cX17_colourCount_35 (G_nam fun z586269 hz586269 => ?_)
          have ez586269 : z586269.toInt = g586258.toInt + 0 := by rw [gI_add hz586269 bg586258 (gBl (show Int32.toInt 0 = 0 by decide)) (by decide) (by decide), show Int32.toInt 0 = 0 from by decide]
          have bz586269 : gB z586269 (-2147483648) 2147483647 := gB_add (gI_add hz586269 bg586258 (gBl (show Int32.toInt 0 = 0 by decide)) (by decide) (by decide)) bg586258 (gBl (show Int32.toInt 0 = 0 by decide)) (by decide) (by decide)
          refine G_istore_n (L' := [(1, .int z586269), (2, .int g586257), (0, .ref q586021)]) dr_cX17_colourCount_36 (Nat.le_of_ble_eq_true rfl) rfl ?_
          obtain ⟨z586270, hz586270⟩ : ∃ z : Int32, z = g586257 + Int32.ofInt 1 := ⟨_, rfl⟩
          have ez586270 : z586270.toInt = g586257.toInt + 1 := gI_inc hz586270 (by decide) bg586257' (by decide) (by decide)
          have bz586270 : gB z586270 1 2000 := ⟨by omega, by omega⟩
          refine G_iinc (L' := [(2, .int z586270), (1, .int z586269), (0, .ref q586021)]) z586270 1 dr_cX17_colourCount_37 rfl hz586270.symm (Nat.le_of_ble_eq_true rfl) rfl ?_
          refine G_goto 13 dr_cX17_colourCount_40 (by decide +kernel) ?_
          exact ih13_586258 z586270 z586269 (gB_w bz586270 (by decide) (by decide)) (mz_up ez586270 (Int.le_trans bg586257'.2 (by decide)) hm13_586258)
        · have r586271 : z586266.toInt ≠ 0 := gj_neq hc586267 (show Int32.toInt 0 = 0 by decide)
          have bz586266' : gB z586266 1 1 := gB_t1 bz586266 r586271
          refine G_iconst 1 dr_cX17_colourCount_30 (by decide +kernel) ?_
          refine G_goto 35 dr_cX17_colourCount_31 (by decide +kernel) ?_
          refine G_iadd dr_cX17_colourCount_35 (G_nam fun z586272 hz586272 => ?_)
          have bz586272 : gB z586272 (-2147483648) 2147483647 := gB_any z586272
          refine G_istore_n (L' := [(1, .int z586272), (2, .int g586257), (0, .ref q586021)]) dr_cX17_colourCount_36 (Nat.le_of_ble_eq_true rfl) rfl ?_
          obtain ⟨z586273, hz586273⟩ : ∃ z : Int32, z = g586257 + Int32.ofInt 1 := ⟨_, rfl⟩
          have ez586273 : z586273.toInt = g586257.toInt + 1 := gI_inc hz586273 (by decide) bg586257' (by decide) (by decide)
          have bz586273 : gB z586273 1 2000 := ⟨by omega, by omega⟩
          refine G_iinc (L' := [(2, .int z586273), (1, .int z586272), (0, .ref q586021)]) z586273 1 dr_cX17_colourCount_37 rfl hz586273.symm (Nat.le_of_ble_eq_true rfl) rfl ?_
          refine G_goto 13 dr_cX17_colourCount_40 (by decide +kernel) ?_
          exact ih13_586258 z586273 z586272 (gB_w bz586273 (by decide) (by decide)) (mz_up ez586273 (Int.le_trans bg586257'.2 (by decide)) hm13_586258)
  exact hlp13_586258 (((2001 : Int) - 0).toNat + 1) 0 0 (gB_w (gBl (show Int32.toInt 0 = 0 by decide)) (by decide) (by decide)) (Nat.lt_succ_self _)
abbrev ky_585814_SpillForgeModel_count : gKey := (cX17_count_, 2, "SpillForgeModel", (some FieldType.int), [], "count", fun _ _ => True)
def pt_585814_SpillForgeModel_count (D : va_G) (I : FieldType → ClassId) (γ el : Nat → Nat → Nat) (P585808 : List Nat) (F585809 : Nat → va_E) (q585810 : Nat) (p585811 : Int32) : Option Value → va_W → Nat → Nat → Prop := fun r w dc ds => ∃ (F586484 : Nat → va_E) (o586483 : Int32), r = some (.int o586483) ∧ w = va_pl P585808 F586484 ∧ RS D I P585808 F586484 γ el ∧ rStr γ [] F585809 F586484 ∧ dc ≤ 0 ∧ ds ≤ 0 ∧ (fI (F586484 q585810) 9).toInt = (fI (F585809 q585810) 9).toInt ∧ (fI (F586484 q585810) 10).toInt = (fI (F585809 q585810) 10).toInt ∧ (fI (F586484 q585810) 32).toInt = (fI (F585809 q585810) 32).toInt
set_option maxRecDepth 100000 in
set_option maxHeartbeats 4000000 in
theorem ct_585814_SpillForgeModel_count (l : Launch) (hl0 : l.stackTraces = false) (D : va_G) (I : FieldType → ClassId) (γ el : Nat → Nat → Nat) (P585808 : List Nat) (F585809 : Nat → va_E) (q585810 : Nat) (p585811 : Int32) (hT : RS D I P585808 F585809 γ el) (htq585810 : rKd γ q585810 10) (x585812 : ((fI (F585809 q585810) 9).toInt = 0 ∨ 0 < γ 6 0)) (x585813 : ((fI (F585809 q585810) 10).toInt = 0 ∨ 0 < γ 6 1)) : CtA (gV D I) l yX17_count_ cX17_count_ 2 (some FieldType.int) 7 163 0 0 [.ref q585810, .int p585811] (va_pl P585808 F585809) (pt_585814_SpillForgeModel_count D I γ el P585808 F585809 q585810 p585811) gNA := by
  refine CtA_of hl0 (by decide) (Nat.le_of_ble_eq_true rfl) ?_
  have bp585811 := gB_any p585811
  have hm585815 : q585810 ∈ P585808 := RS_m hT htq585810 (by decide)
  refine rk10_e (show rk_10 γ (F585809 q585810) from RS_o hT htq585810) (fun q585817 q585818 p585819 p585820 p585821 p585822 p585823 p585824 p585825 p585826 p585827 p585828 p585829 p585830 p585831 p585832 p585833 he585816 hB585860 ht585834 ht585835 ht585836 ht585837 ht585838 ht585839 ht585840 ht585841 ht585842 ht585843 ht585844 ht585845 ht585846 ht585847 ht585848 ht585849 ht585850 ht585851 ht585852 ht585853 ht585854 ht585855 ht585856 ht585857 hB585861 => ?_)
  have ac585862 : (fI (F585809 q585810) 9).toInt = p585819.toInt := by rw [he585816]; rfl
  have bp585819 : gB p585819 0 1 := (hB585860.1)
  have ac585863 : (fI (F585809 q585810) 10).toInt = p585820.toInt := by rw [he585816]; rfl
  have bp585820 : gB p585820 0 1 := (hB585860.2.1)
  have ac585864 : (fI (F585809 q585810) 32).toInt = p585831.toInt := by rw [he585816]; rfl
  have bp585831 : gB p585831 0 8192 := (hB585860.2.2.2.2.2.2.2.1)
  have fq585865 : γ 6 (γ 1 (γ 9 6)) = γ 6 0 := by rw [show γ 1 (γ 9 6) = 0 from ht585855]
  have fq585866 : γ 6 (γ 1 (γ 9 7)) = γ 6 1 := by rw [show γ 1 (γ 9 7) = 1 from ht585856]
  have fq585867 : γ 6 (γ 1 (γ 9 8)) = γ 6 2 := by rw [show γ 1 (γ 9 8) = 2 from ht585857]
  have r585868 : p585833.toInt ≤ γ 12 q585818 := by have z := hB585861; unfold rM2 at z; exact z.2.2
  refine G_aload_n 0 dr_cX17_count__0 rfl ?_
  refine G_iconst 0 dr_cX17_count__1 (by decide +kernel) ?_
  refine Gp_put 30 hm585815 he585816 dr_cX17_count__2 (gk_X17 D I) (Nat.le_of_ble_eq_true rfl) wr_7_104 rfl rfl rfl (Nat.le_of_ble_eq_true rfl) (fun F585869 e585870 n585871 => ?_)
  have he585872 : F585869 q585810 = .inr (22, [.ref (γ 9 0), .ref (γ 9 1), .ref (γ 9 2), .ref (γ 9 3), .ref (γ 9 4), .ref (γ 9 5), .ref (γ 9 6), .ref (γ 9 7), .ref (γ 9 8), .int p585819, .int p585820, .int p585821, .int p585822, .int p585823, .int p585824, .ref (γ 9 15), .ref (γ 9 16), .ref (γ 9 17), .ref (γ 9 18), .ref (γ 9 19), .ref (γ 9 20), .ref (γ 9 21), .ref (γ 9 22), .int p585825, .int p585826, .int p585827, .int p585828, .int p585829, .ref q585817, .ref (γ 9 29), .int 0, .ref (γ 9 31), .int p585831, .int p585832, .int p585833, .ref q585818]) := e585870
  have hs585873 : rStr γ [] F585809 F585869 := rStr_put (rStr_rf (γ := γ) (W := []) (F := F585809)) n585871 htq585810 (by decide)
  refine G_iload_n 1 dr_cX17_count__5 rfl ?_
  by_cases hs585874 : p585811 = 0
  · have ehs585874 : p585811.toInt = 0 := gj_eq hs585874 (show Int32.toInt 0 = 0 by decide)
    have bp585811' : gB p585811 0 0 := ⟨by omega, by omega⟩
    refine G_eqi (y := 0) hs585874 ?_
    refine G_tableIn 68 dr_cX17_count__6 (by decide) (by decide) (by first | rfl | decide) (by decide) ?_
    refine G_aload_n 0 dr_cX17_count__68 rfl ?_
    refine Gp_get 9 hm585815 he585872 dr_cX17_count__69 (gk_X17 D I) (Nat.le_of_ble_eq_true rfl) wr_7_83 rfl ?_
    refine G_if_eq 85 dr_cX17_count__72 (by decide +kernel) (fun hc585875 => ?_) (fun hc585875 => ?_)
    · have r585876 : p585819.toInt = 0 := gj_eq hc585875 (show Int32.toInt 0 = 0 by decide)
      have bp585819' : gB p585819 0 0 := gB_t0 r585876
      refine G_iconst 0 dr_cX17_count__85 (by decide +kernel) ?_
      have hT585877 : RS D I P585808 F585869 γ el := RS_set hT n585871 htq585810 (by decide) ⟨q585817, q585818, p585819, p585820, p585821, p585822, p585823, p585824, p585825, p585826, p585827, p585828, p585829, 0, p585831, p585832, p585833, he585872, ⟨(gB_w bp585819' (by decide) (by decide)), bp585820, (hB585860.2.2.1), (hB585860.2.2.2.1), (hB585860.2.2.2.2.1), (hB585860.2.2.2.2.2.1), (hB585860.2.2.2.2.2.2.1), bp585831, (hB585860.2.2.2.2.2.2.2.2)⟩, ht585834, ht585835, ht585836, ht585837, ht585838, ht585839, ht585840, ht585841, ht585842, ht585843, ht585844, ht585845, ht585846, ht585847, ht585848, ht585849, ht585850, ht585851, ht585852, ht585853, ht585854, ht585855, ht585856, ht585857, hB585861⟩
      have ac585878 : (fI (F585869 q585810) 9).toInt = p585819.toInt := by rw [he585872]; rfl
      have ac585879 : (fI (F585869 q585810) 10).toInt = p585820.toInt := by rw [he585872]; rfl
      have ac585880 : (fI (F585869 q585810) 32).toInt = p585831.toInt := by rw [he585872]; rfl
      exact G_iretA dr_cX17_count__86 rfl (Nat.le_of_ble_eq_true rfl) (Nat.le_of_ble_eq_true rfl) ⟨F585869, 0, rfl, rfl, hT585877, hs585873, (Nat.le_of_ble_eq_true rfl), (Nat.le_of_ble_eq_true rfl), (by have qa0 : Int32.toInt 0 = 0 := (by decide); omega), (by have qa0 : Int32.toInt 0 = 0 := (by decide); omega), (by have qa0 : Int32.toInt 0 = 0 := (by decide); omega)⟩
    · have r585881 : p585819.toInt ≠ 0 := gj_neq hc585875 (show Int32.toInt 0 = 0 by decide)
      have bp585819' : gB p585819 1 1 := gB_t1 bp585819 r585881
      refine G_aload_n 0 dr_cX17_count__75 rfl ?_
      refine Gp_get 6 hm585815 he585872 dr_cX17_count__76 (gk_X17 D I) (Nat.le_of_ble_eq_true rfl) wr_7_80 rfl ?_
      have hT585882 : RS D I P585808 F585869 γ el := RS_set hT n585871 htq585810 (by decide) ⟨q585817, q585818, p585819, p585820, p585821, p585822, p585823, p585824, p585825, p585826, p585827, p585828, p585829, 0, p585831, p585832, p585833, he585872, ⟨(gB_w bp585819' (by decide) (by decide)), bp585820, (hB585860.2.2.1), (hB585860.2.2.2.1), (hB585860.2.2.2.2.1), (hB585860.2.2.2.2.2.1), (hB585860.2.2.2.2.2.2.1), bp585831, (hB585860.2.2.2.2.2.2.2.2)⟩, ht585834, ht585835, ht585836, ht585837, ht585838, ht585839, ht585840, ht585841, ht585842, ht585843, ht585844, ht585845, ht585846, ht585847, ht585848, ht585849, ht585850, ht585851, ht585852, ht585853, ht585854, ht585855, ht585856, ht585857, hB585861⟩
      have hm585883 : (γ 9 6) ∈ P585808 := RS_m hT585882 ht585842 (by decide)
      obtain ⟨q585885, q585886, p585887, p585888, he585884, ht585904, ht585889, ht585890, ht585891, ht585892, r585893, r585894, r585895, r585896, r585897, r585898, r585899, r585900, r585901, r585902, r585903⟩ := show rk_9 γ el (γ 9 6) (F585869 (γ 9 6)) from RS_o hT585882 ht585842
      have bp585887 : gB p585887 0 1000000 := ⟨by omega, by omega⟩
      have bp585888 : gB p585888 0 1000000 := ⟨by omega, by omega⟩
      refine Gw_callV (As := []) (gV_ok D I) (cp_12780_Code_size l hl0 D I P585808 F585869 (γ 9 6) q585885 q585886 p585887 p585888 hm585883 he585884) dr_cX17_count__79 ⟨wr_10_160, wr_1_15, wr_9_131, by decide, rfl, (Nat.le_of_ble_eq_true rfl), (Nat.le_of_ble_eq_true rfl)⟩ wr_9_129 wr_9_130 hm585883 he585884 rfl (show 0 + 0 ≤ 0 by first | omega | decide) (show 0 + 0 ≤ 0 by first | omega | decide) (Nat.le_of_ble_eq_true rfl) (fun r585908 w585909 dc585905 ds585906 hp585907 => ?_) (fun _ _ _ _ _ z => z.elim)
      obtain ⟨rfl, rfl, hdc, hds⟩ := hp585907
      change G _ _ _ _ _ _ _ (.int p585888 :: _) _ _ _
      refine G_widen (cs' := 0) (sl' := 0) (by omega) (by omega) ?_
      refine G_goto 86 dr_cX17_count__82 (by decide +kernel) ?_
      have ac585910 : (fI (F585869 q585810) 9).toInt = p585819.toInt := by rw [he585872]; rfl
      have ac585911 : (fI (F585869 q585810) 10).toInt = p585820.toInt := by rw [he585872]; rfl
      have ac585912 : (fI (F585869 q585810) 32).toInt = p585831.toInt := by rw [he585872]; rfl
      exact G_iretA dr_cX17_count__86 rfl (Nat.le_of_ble_eq_true rfl) (Nat.le_of_ble_eq_true rfl) ⟨F585869, p585888, rfl, rfl, hT585882, hs585873, (Nat.le_of_ble_eq_true rfl), (Nat.le_of_ble_eq_true rfl), (by omega), (by omega), (by omega)⟩
  by_cases hs585913 : p585811 = 1
  · have ehs585913 : p585811.toInt = 1 := gj_eq hs585913 (show Int32.toInt 1 = 1 by decide)
    have bp585811' : gB p585811 1 1 := ⟨by omega, by omega⟩
    refine G_eqi (y := 1) hs585913 ?_
    refine G_tableIn 87 dr_cX17_count__6 (by decide) (by decide) (by first | rfl | decide) (by decide) ?_
    refine G_aload_n 0 dr_cX17_count__87 rfl ?_
    refine Gp_get 9 hm585815 he585872 dr_cX17_count__88 (gk_X17 D I) (Nat.le_of_ble_eq_true rfl) wr_7_83 rfl ?_
    refine G_if_eq 104 dr_cX17_count__91 (by decide +kernel) (fun hc585914 => ?_) (fun hc585914 => ?_)
    · have r585915 : p585819.toInt = 0 := gj_eq hc585914 (show Int32.toInt 0 = 0 by decide)
      have bp585819' : gB p585819 0 0 := gB_t0 r585915
      refine G_iconst 0 dr_cX17_count__104 (by decide +kernel) ?_
      have hT585916 : RS D I P585808 F585869 γ el := RS_set hT n585871 htq585810 (by decide) ⟨q585817, q585818, p585819, p585820, p585821, p585822, p585823, p585824, p585825, p585826, p585827, p585828, p585829, 0, p585831, p585832, p585833, he585872, ⟨(gB_w bp585819' (by decide) (by decide)), bp585820, (hB585860.2.2.1), (hB585860.2.2.2.1), (hB585860.2.2.2.2.1), (hB585860.2.2.2.2.2.1), (hB585860.2.2.2.2.2.2.1), bp585831, (hB585860.2.2.2.2.2.2.2.2)⟩, ht585834, ht585835, ht585836, ht585837, ht585838, ht585839, ht585840, ht585841, ht585842, ht585843, ht585844, ht585845, ht585846, ht585847, ht585848, ht585849, ht585850, ht585851, ht585852, ht585853, ht585854, ht585855, ht585856, ht585857, hB585861⟩
      have ac585917 : (fI (F585869 q585810) 9).toInt = p585819.toInt := by rw [he585872]; rfl
      have ac585918 : (fI (F585869 q585810) 10).toInt = p585820.toInt := by rw [he585872]; rfl
      have ac585919 : (fI (F585869 q585810) 32).toInt = p585831.toInt := by rw [he585872]; rfl
      exact G_iretA dr_cX17_count__105 rfl (Nat.le_of_ble_eq_true rfl) (Nat.le_of_ble_eq_true rfl) ⟨F585869, 0, rfl, rfl, hT585916, hs585873, (Nat.le_of_ble_eq_true rfl), (Nat.le_of_ble_eq_true rfl), (by have qa0 : Int32.toInt 0 = 0 := (by decide); omega), (by have qa0 : Int32.toInt 0 = 0 := (by decide); omega), (by have qa0 : Int32.toInt 0 = 0 := (by decide); omega)⟩
    · have r585920 : p585819.toInt ≠ 0 := gj_neq hc585914 (show Int32.toInt 0 = 0 by decide)
      have bp585819' : gB p585819 1 1 := gB_t1 bp585819 r585920
      refine G_aload_n 0 dr_cX17_count__94 rfl ?_
      refine Gp_get 6 hm585815 he585872 dr_cX17_count__95 (gk_X17 D I) (Nat.le_of_ble_eq_true rfl) wr_7_80 rfl ?_
      have hT585921 : RS D I P585808 F585869 γ el := RS_set hT n585871 htq585810 (by decide) ⟨q585817, q585818, p585819, p585820, p585821, p585822, p585823, p585824, p585825, p585826, p585827, p585828, p585829, 0, p585831, p585832, p585833, he585872, ⟨(gB_w bp585819' (by decide) (by decide)), bp585820, (hB585860.2.2.1), (hB585860.2.2.2.1), (hB585860.2.2.2.2.1), (hB585860.2.2.2.2.2.1), (hB585860.2.2.2.2.2.2.1), bp585831, (hB585860.2.2.2.2.2.2.2.2)⟩, ht585834, ht585835, ht585836, ht585837, ht585838, ht585839, ht585840, ht585841, ht585842, ht585843, ht585844, ht585845, ht585846, ht585847, ht585848, ht585849, ht585850, ht585851, ht585852, ht585853, ht585854, ht585855, ht585856, ht585857, hB585861⟩
      have hm585927 : (γ 9 6) ∈ P585808 := RS_m hT585921 ht585842 (by decide)
      obtain ⟨q585929, q585930, p585931, p585932, he585928, ht585948, ht585933, ht585934, ht585935, ht585936, r585937, r585938, r585939, r585940, r585941, r585942, r585943, r585944, r585945, r585946, r585947⟩ := show rk_9 γ el (γ 9 6) (F585869 (γ 9 6)) from RS_o hT585921 ht585842
      have bp585931 : gB p585931 0 1000000 := ⟨by omega, by omega⟩
      have bp585932 : gB p585932 0 1000000 := ⟨by omega, by omega⟩
      refine Gw_callV (As := []) (gV_ok D I) (ct_7810_Code_countRows l hl0 D I γ el P585808 F585869 (γ 9 6) hT585921 ht585842 (by have qa0 : Int32.toInt 0 = 0 := (by decide); omega)) dr_cX17_count__98 ⟨wr_10_229, wr_1_15, wr_10_232, by decide, rfl, (Nat.le_of_ble_eq_true rfl), (Nat.le_of_ble_eq_true rfl)⟩ wr_10_230 wr_10_231 hm585927 he585928 rfl (show 0 + 0 ≤ 0 by first | omega | decide) (show 0 + 0 ≤ 0 by first | omega | decide) (Nat.le_of_ble_eq_true rfl) (fun r585925 w585926 dc585922 ds585923 hp585924 => ?_) (fun _ _ _ _ _ z => z.elim)
      obtain ⟨o585949, rfl, rfl, hdc, hds, ht585950⟩ := hp585924
      have bo585949 := gB_any o585949
      change G _ _ _ _ _ _ _ (.int o585949 :: _) _ _ _
      refine G_widen (cs' := 0) (sl' := 0) (by omega) (by omega) ?_
      refine G_goto 105 dr_cX17_count__101 (by decide +kernel) ?_
      have ac585951 : (fI (F585869 q585810) 9).toInt = p585819.toInt := by rw [he585872]; rfl
      have ac585952 : (fI (F585869 q585810) 10).toInt = p585820.toInt := by rw [he585872]; rfl
      have ac585953 : (fI (F585869 q585810) 32).toInt = p585831.toInt := by rw [he585872]; rfl
      exact G_iretA dr_cX17_count__105 rfl (Nat.le_of_ble_eq_true rfl) (Nat.le_of_ble_eq_true rfl) ⟨F585869, o585949, rfl, rfl, hT585921, hs585873, (Nat.le_of_ble_eq_true rfl), (Nat.le_of_ble_eq_true rfl), (by omega), (by omega), (by omega)⟩
  by_cases hs585954 : p585811 = 2
  · have ehs585954 : p585811.toInt = 2 := gj_eq hs585954 (show Int32.toInt 2 = 2 by decide)
    have bp585811' : gB p585811 2 2 := ⟨by omega, by omega⟩
    refine G_eqi (y := 2) hs585954 ?_
    refine G_tableIn 106 dr_cX17_count__6 (by decide) (by decide) (by first | rfl | decide) (by decide) ?_
    refine G_aload_n 0 dr_cX17_count__106 rfl ?_
    refine Gp_get 33 hm585815 he585872 dr_cX17_count__107 (gk_X17 D I) (Nat.le_of_ble_eq_true rfl) wr_7_107 rfl ?_
    have bp585832 : gB p585832 (-2147483648) 2147483647 := (gB_any p585832)
    have hT585955 : RS D I P585808 F585869 γ el := RS_set hT n585871 htq585810 (by decide) ⟨q585817, q585818, p585819, p585820, p585821, p585822, p585823, p585824, p585825, p585826, p585827, p585828, p585829, 0, p585831, p585832, p585833, he585872, ⟨bp585819, bp585820, (hB585860.2.2.1), (hB585860.2.2.2.1), (hB585860.2.2.2.2.1), (hB585860.2.2.2.2.2.1), (hB585860.2.2.2.2.2.2.1), bp585831, (hB585860.2.2.2.2.2.2.2.2)⟩, ht585834, ht585835, ht585836, ht585837, ht585838, ht585839, ht585840, ht585841, ht585842, ht585843, ht585844, ht585845, ht585846, ht585847, ht585848, ht585849, ht585850, ht585851, ht585852, ht585853, ht585854, ht585855, ht585856, ht585857, hB585861⟩
    have ac585956 : (fI (F585869 q585810) 9).toInt = p585819.toInt := by rw [he585872]; rfl
    have ac585957 : (fI (F585869 q585810) 10).toInt = p585820.toInt := by rw [he585872]; rfl
    have ac585958 : (fI (F585869 q585810) 32).toInt = p585831.toInt := by rw [he585872]; rfl
    exact G_iretA dr_cX17_count__110 rfl (Nat.le_of_ble_eq_true rfl) (Nat.le_of_ble_eq_true rfl) ⟨F585869, p585832, rfl, rfl, hT585955, hs585873, (Nat.le_of_ble_eq_true rfl), (Nat.le_of_ble_eq_true rfl), (by omega), (by omega), (by omega)⟩
  by_cases hs585959 : p585811 = 3
  · have ehs585959 : p585811.toInt = 3 := gj_eq hs585959 (show Int32.toInt 3 = 3 by decide)
    have bp585811' : gB p585811 3 3 := ⟨by omega, by omega⟩
    refine G_eqi (y := 3) hs585959 ?_
    refine G_tableIn 111 dr_cX17_count__6 (by decide) (by decide) (by first | rfl | decide) (by decide) ?_
    refine G_aload_n 0 dr_cX17_count__111 rfl ?_
    refine Gp_get 32 hm585815 he585872 dr_cX17_count__112 (gk_X17 D I) (Nat.le_of_ble_eq_true rfl) wr_7_106 rfl ?_
    have hT585960 : RS D I P585808 F585869 γ el := RS_set hT n585871 htq585810 (by decide) ⟨q585817, q585818, p585819, p585820, p585821, p585822, p585823, p585824, p585825, p585826, p585827, p585828, p585829, 0, p585831, p585832, p585833, he585872, ⟨bp585819, bp585820, (hB585860.2.2.1), (hB585860.2.2.2.1), (hB585860.2.2.2.2.1), (hB585860.2.2.2.2.2.1), (hB585860.2.2.2.2.2.2.1), bp585831, (hB585860.2.2.2.2.2.2.2.2)⟩, ht585834, ht585835, ht585836, ht585837, ht585838, ht585839, ht585840, ht585841, ht585842, ht585843, ht585844, ht585845, ht585846, ht585847, ht585848, ht585849, ht585850, ht585851, ht585852, ht585853, ht585854, ht585855, ht585856, ht585857, hB585861⟩
    have ac585961 : (fI (F585869 q585810) 9).toInt = p585819.toInt := by rw [he585872]; rfl
    have ac585962 : (fI (F585869 q585810) 10).toInt = p585820.toInt := by rw [he585872]; rfl
    have ac585963 : (fI (F585869 q585810) 32).toInt = p585831.toInt := by rw [he585872]; rfl
    exact G_iretA dr_cX17_count__115 rfl (Nat.le_of_ble_eq_true rfl) (Nat.le_of_ble_eq_true rfl) ⟨F585869, p585831, rfl, rfl, hT585960, hs585873, (Nat.le_of_ble_eq_true rfl), (Nat.le_of_ble_eq_true rfl), (by omega), (by omega), (by omega)⟩
  by_cases hs585964 : p585811 = 4
  · have ehs585964 : p585811.toInt = 4 := gj_eq hs585964 (show Int32.toInt 4 = 4 by decide)
    have bp585811' : gB p585811 4 4 := ⟨by omega, by omega⟩
    refine G_eqi (y := 4) hs585964 ?_
    refine G_tableIn 116 dr_cX17_count__6 (by decide) (by decide) (by first | rfl | decide) (by decide) ?_
    refine G_aload_n 0 dr_cX17_count__116 rfl ?_
    refine Gp_get 34 hm585815 he585872 dr_cX17_count__117 (gk_X17 D I) (Nat.le_of_ble_eq_true rfl) wr_7_108 rfl ?_
    have bp585833 : gB p585833 0 16777216 := (hB585860.2.2.2.2.2.2.2.2)
    have hT585965 : RS D I P585808 F585869 γ el := RS_set hT n585871 htq585810 (by decide) ⟨q585817, q585818, p585819, p585820, p585821, p585822, p585823, p585824, p585825, p585826, p585827, p585828, p585829, 0, p585831, p585832, p585833, he585872, ⟨bp585819, bp585820, (hB585860.2.2.1), (hB585860.2.2.2.1), (hB585860.2.2.2.2.1), (hB585860.2.2.2.2.2.1), (hB585860.2.2.2.2.2.2.1), bp585831, bp585833⟩, ht585834, ht585835, ht585836, ht585837, ht585838, ht585839, ht585840, ht585841, ht585842, ht585843, ht585844, ht585845, ht585846, ht585847, ht585848, ht585849, ht585850, ht585851, ht585852, ht585853, ht585854, ht585855, ht585856, ht585857, hB585861⟩
    have ac585966 : (fI (F585869 q585810) 9).toInt = p585819.toInt := by rw [he585872]; rfl
    have ac585967 : (fI (F585869 q585810) 10).toInt = p585820.toInt := by rw [he585872]; rfl
    have ac585968 : (fI (F585869 q585810) 32).toInt = p585831.toInt := by rw [he585872]; rfl
    exact G_iretA dr_cX17_count__120 rfl (Nat.le_of_ble_eq_true rfl) (Nat.le_of_ble_eq_true rfl) ⟨F585869, p585833, rfl, rfl, hT585965, hs585873, (Nat.le_of_ble_eq_true rfl), (Nat.le_of_ble_eq_true rfl), (by omega), (by omega), (by omega)⟩
  by_cases hs585969 : p585811 = 5
  · have ehs585969 : p585811.toInt = 5 := gj_eq hs585969 (show Int32.toInt 5 = 5 by decide)
    have bp585811' : gB p585811 5 5 := ⟨by omega, by omega⟩
    refine G_eqi (y := 5) hs585969 ?_
    refine G_tableIn 121 dr_cX17_count__6 (by decide) (by decide) (by first | rfl | decide) (by decide) ?_
    refine G_aload_n 0 dr_cX17_count__121 rfl ?_
    refine Gp_get 10 hm585815 he585872 dr_cX17_count__122 (gk_X17 D I) (Nat.le_of_ble_eq_true rfl) wr_7_84 rfl ?_
    refine G_if_eq 138 dr_cX17_count__125 (by decide +kernel) (fun hc585970 => ?_) (fun hc585970 => ?_)
    · have r585971 : p585820.toInt = 0 := gj_eq hc585970 (show Int32.toInt 0 = 0 by decide)
      have bp585820' : gB p585820 0 0 := gB_t0 r585971
      refine G_iconst 0 dr_cX17_count__138 (by decide +kernel) ?_
      have hT585972 : RS D I P585808 F585869 γ el := RS_set hT n585871 htq585810 (by decide) ⟨q585817, q585818, p585819, p585820, p585821, p585822, p585823, p585824, p585825, p585826, p585827, p585828, p585829, 0, p585831, p585832, p585833, he585872, ⟨bp585819, (gB_w bp585820' (by decide) (by decide)), (hB585860.2.2.1), (hB585860.2.2.2.1), (hB585860.2.2.2.2.1), (hB585860.2.2.2.2.2.1), (hB585860.2.2.2.2.2.2.1), bp585831, (hB585860.2.2.2.2.2.2.2.2)⟩, ht585834, ht585835, ht585836, ht585837, ht585838, ht585839, ht585840, ht585841, ht585842, ht585843, ht585844, ht585845, ht585846, ht585847, ht585848, ht585849, ht585850, ht585851, ht585852, ht585853, ht585854, ht585855, ht585856, ht585857, hB585861⟩
      have ac585973 : (fI (F585869 q585810) 9).toInt = p585819.toInt := by rw [he585872]; rfl
      have ac585974 : (fI (F585869 q585810) 10).toInt = p585820.toInt := by rw [he585872]; rfl
      have ac585975 : (fI (F585869 q585810) 32).toInt = p585831.toInt := by rw [he585872]; rfl
      exact G_iretA dr_cX17_count__139 rfl (Nat.le_of_ble_eq_true rfl) (Nat.le_of_ble_eq_true rfl) ⟨F585869, 0, rfl, rfl, hT585972, hs585873, (Nat.le_of_ble_eq_true rfl), (Nat.le_of_ble_eq_true rfl), (by have qa0 : Int32.toInt 0 = 0 := (by decide); omega), (by have qa0 : Int32.toInt 0 = 0 := (by decide); omega), (by have qa0 : Int32.toInt 0 = 0 := (by decide); omega)⟩
    · have r585976 : p585820.toInt ≠ 0 := gj_neq hc585970 (show Int32.toInt 0 = 0 by decide)
      have bp585820' : gB p585820 1 1 := gB_t1 bp585820 r585976
      refine G_aload_n 0 dr_cX17_count__128 rfl ?_
      refine Gp_get 7 hm585815 he585872 dr_cX17_count__129 (gk_X17 D I) (Nat.le_of_ble_eq_true rfl) wr_7_81 rfl ?_
      have hT585977 : RS D I P585808 F585869 γ el := RS_set hT n585871 htq585810 (by decide) ⟨q585817, q585818, p585819, p585820, p585821, p585822, p585823, p585824, p585825, p585826, p585827, p585828, p585829, 0, p585831, p585832, p585833, he585872, ⟨bp585819, (gB_w bp585820' (by decide) (by decide)), (hB585860.2.2.1), (hB585860.2.2.2.1), (hB585860.2.2.2.2.1), (hB585860.2.2.2.2.2.1), (hB585860.2.2.2.2.2.2.1), bp585831, (hB585860.2.2.2.2.2.2.2.2)⟩, ht585834, ht585835, ht585836, ht585837, ht585838, ht585839, ht585840, ht585841, ht585842, ht585843, ht585844, ht585845, ht585846, ht585847, ht585848, ht585849, ht585850, ht585851, ht585852, ht585853, ht585854, ht585855, ht585856, ht585857, hB585861⟩
      have hm585983 : (γ 9 7) ∈ P585808 := RS_m hT585977 ht585843 (by decide)
      obtain ⟨q585985, q585986, p585987, p585988, he585984, ht586004, ht585989, ht585990, ht585991, ht585992, r585993, r585994, r585995, r585996, r585997, r585998, r585999, r586000, r586001, r586002, r586003⟩ := show rk_9 γ el (γ 9 7) (F585869 (γ 9 7)) from RS_o hT585977 ht585843
      have bp585987 : gB p585987 0 1000000 := ⟨by omega, by omega⟩
      have bp585988 : gB p585988 0 1000000 := ⟨by omega, by omega⟩
      refine Gw_callV (As := []) (gV_ok D I) (ct_7810_Code_countRows l hl0 D I γ el P585808 F585869 (γ 9 7) hT585977 ht585843 (by have qa0 : Int32.toInt 0 = 0 := (by decide); omega)) dr_cX17_count__132 ⟨wr_10_229, wr_1_15, wr_10_232, by decide, rfl, (Nat.le_of_ble_eq_true rfl), (Nat.le_of_ble_eq_true rfl)⟩ wr_10_230 wr_10_231 hm585983 he585984 rfl (show 0 + 0 ≤ 0 by first | omega | decide) (show 0 + 0 ≤ 0 by first | omega | decide) (Nat.le_of_ble_eq_true rfl) (fun r585981 w585982 dc585978 ds585979 hp585980 => ?_) (fun _ _ _ _ _ z => z.elim)
      obtain ⟨o586005, rfl, rfl, hdc, hds, ht586006⟩ := hp585980
      have bo586005 := gB_any o586005
      change G _ _ _ _ _ _ _ (.int o586005 :: _) _ _ _
      refine G_widen (cs' := 0) (sl' := 0) (by omega) (by omega) ?_
      refine G_goto 139 dr_cX17_count__135 (by decide +kernel) ?_
      have ac586007 : (fI (F585869 q585810) 9).toInt = p585819.toInt := by rw [he585872]; rfl
      have ac586008 : (fI (F585869 q585810) 10).toInt = p585820.toInt := by rw [he585872]; rfl
      have ac586009 : (fI (F585869 q585810) 32).toInt = p585831.toInt := by rw [he585872]; rfl
      exact G_iretA dr_cX17_count__139 rfl (Nat.le_of_ble_eq_true rfl) (Nat.le_of_ble_eq_true rfl) ⟨F585869, o586005, rfl, rfl, hT585977, hs585873, (Nat.le_of_ble_eq_true rfl), (Nat.le_of_ble_eq_true rfl), (by omega), (by omega), (by omega)⟩
  by_cases hs586010 : p585811 = 6
  · have ehs586010 : p585811.toInt = 6 := gj_eq hs586010 (show Int32.toInt 6 = 6 by decide)
    have bp585811' : gB p585811 6 6 := ⟨by omega, by omega⟩
    refine G_eqi (y := 6) hs586010 ?_
    refine G_tableIn 140 dr_cX17_count__6 (by decide) (by decide) (by first | rfl | decide) (by decide) ?_
    refine G_aload_n 0 dr_cX17_count__140 rfl ?_
    refine Gp_get 10 hm585815 he585872 dr_cX17_count__141 (gk_X17 D I) (Nat.le_of_ble_eq_true rfl) wr_7_84 rfl ?_
    refine G_if_eq 154 dr_cX17_count__144 (by decide +kernel) (fun hc586011 => ?_) (fun hc586011 => ?_)
    · have r586012 : p585820.toInt = 0 := gj_eq hc586011 (show Int32.toInt 0 = 0 by decide)
      have bp585820' : gB p585820 0 0 := gB_t0 r586012
      refine G_iconst 0 dr_cX17_count__154 (by decide +kernel) ?_
      have hT586013 : RS D I P585808 F585869 γ el := RS_set hT n585871 htq585810 (by decide) ⟨q585817, q585818, p585819, p585820, p585821, p585822, p585823, p585824, p585825, p585826, p585827, p585828, p585829, 0, p585831, p585832, p585833, he585872, ⟨bp585819, (gB_w bp585820' (by decide) (by decide)), (hB585860.2.2.1), (hB585860.2.2.2.1), (hB585860.2.2.2.2.1), (hB585860.2.2.2.2.2.1), (hB585860.2.2.2.2.2.2.1), bp585831, (hB585860.2.2.2.2.2.2.2.2)⟩, ht585834, ht585835, ht585836, ht585837, ht585838, ht585839, ht585840, ht585841, ht585842, ht585843, ht585844, ht585845, ht585846, ht585847, ht585848, ht585849, ht585850, ht585851, ht585852, ht585853, ht585854, ht585855, ht585856, ht585857, hB585861⟩
      have ac586014 : (fI (F585869 q585810) 9).toInt = p585819.toInt := by rw [he585872]; rfl
      have ac586015 : (fI (F585869 q585810) 10).toInt = p585820.toInt := by rw [he585872]; rfl
      have ac586016 : (fI (F585869 q585810) 32).toInt = p585831.toInt := by rw [he585872]; rfl
      exact G_iretA dr_cX17_count__155 rfl (Nat.le_of_ble_eq_true rfl) (Nat.le_of_ble_eq_true rfl) ⟨F585869, 0, rfl, rfl, hT586013, hs585873, (Nat.le_of_ble_eq_true rfl), (Nat.le_of_ble_eq_true rfl), (by have qa0 : Int32.toInt 0 = 0 := (by decide); omega), (by have qa0 : Int32.toInt 0 = 0 := (by decide); omega), (by have qa0 : Int32.toInt 0 = 0 := (by decide); omega)⟩
    · have r586017 : p585820.toInt ≠ 0 := gj_neq hc586011 (show Int32.toInt 0 = 0 by decide)
      have bp585820' : gB p585820 1 1 := gB_t1 bp585820 r586017
      refine G_aload_n 0 dr_cX17_count__147 rfl ?_
      have hT586018 : RS D I P585808 F585869 γ el := RS_set hT n585871 htq585810 (by decide) ⟨q585817, q585818, p585819, p585820, p585821, p585822, p585823, p585824, p585825, p585826, p585827, p585828, p585829, 0, p585831, p585832, p585833, he585872, ⟨bp585819, (gB_w bp585820' (by decide) (by decide)), (hB585860.2.2.1), (hB585860.2.2.2.1), (hB585860.2.2.2.2.1), (hB585860.2.2.2.2.2.1), (hB585860.2.2.2.2.2.2.1), bp585831, (hB585860.2.2.2.2.2.2.2.2)⟩, ht585834, ht585835, ht585836, ht585837, ht585838, ht585839, ht585840, ht585841, ht585842, ht585843, ht585844, ht585845, ht585846, ht585847, ht585848, ht585849, ht585850, ht585851, ht585852, ht585853, ht585854, ht585855, ht585856, ht585857, hB585861⟩
      have ac586276 : (fI (F585869 q585810) 9).toInt = p585819.toInt := by rw [he585872]; rfl
      have ac586277 : (fI (F585869 q585810) 10).toInt = p585820.toInt := by rw [he585872]; rfl
      have ac586278 : (fI (F585869 q585810) 32).toInt = p585831.toInt := by rw [he585872]; rfl
      refine Gw_callV (As := []) (gV_ok D I) (ct_586023_SpillForgeModel_colourCount l hl0 D I γ el P585808 F585869 q585810 hT586018 htq585810 (by have qa0 : Int32.toInt 0 = 0 := (by decide); omega)) dr_cX17_count__148 ⟨wr_11_75, wr_1_14, wr_11_78, by decide, rfl, (Nat.le_of_ble_eq_true rfl), (Nat.le_of_ble_eq_true rfl)⟩ wr_11_77 wr_p_112 hm585815 he585872 rfl (show 0 + 0 ≤ 0 by first | omega | decide) (show 0 + 0 ≤ 0 by first | omega | decide) (Nat.le_of_ble_eq_true rfl) (fun r586282 w586283 dc586279 ds586280 hp586281 => ?_) (fun _ _ _ _ _ z => z.elim)
      obtain ⟨F586286, o586284, rfl, rfl, hT586287, hs586288, hdc, hds, x586285⟩ := hp586281
      have hs586289 : rStr γ [] F585809 F586286 := rStr_tr hs585873 hs586288
      have kp586290 : F586286 q585810 = F585869 q585810 := x586285
      have he586291 : F586286 q585810 = .inr (22, [.ref (γ 9 0), .ref (γ 9 1), .ref (γ 9 2), .ref (γ 9 3), .ref (γ 9 4), .ref (γ 9 5), .ref (γ 9 6), .ref (γ 9 7), .ref (γ 9 8), .int p585819, .int p585820, .int p585821, .int p585822, .int p585823, .int p585824, .ref (γ 9 15), .ref (γ 9 16), .ref (γ 9 17), .ref (γ 9 18), .ref (γ 9 19), .ref (γ 9 20), .ref (γ 9 21), .ref (γ 9 22), .int p585825, .int p585826, .int p585827, .int p585828, .int p585829, .ref q585817, .ref (γ 9 29), .int 0, .ref (γ 9 31), .int p585831, .int p585832, .int p585833, .ref q585818]) := (x586285).trans he585872
      have bo586284 := gB_any o586284
      change G _ _ _ _ _ _ _ (.int o586284 :: _) _ _ _
      refine G_widen (cs' := 0) (sl' := 0) (by omega) (by omega) ?_
      refine G_goto 155 dr_cX17_count__151 (by decide +kernel) ?_
      have ac586292 : (fI (F586286 q585810) 9).toInt = p585819.toInt := by rw [he586291]; rfl
      have ac586293 : (fI (F586286 q585810) 10).toInt = p585820.toInt := by rw [he586291]; rfl
      have ac586294 : (fI (F586286 q585810) 32).toInt = p585831.toInt := by rw [he586291]; rfl
      exact G_iretA dr_cX17_count__155 rfl (Nat.le_of_ble_eq_true rfl) (Nat.le_of_ble_eq_true rfl) ⟨F586286, o586284, rfl, rfl, hT586287, hs586289, (Nat.le_of_ble_eq_true rfl), (Nat.le_of_ble_eq_true rfl), (by omega), (by omega), (by omega)⟩
  by_cases hs586295 : p585811 = 7
  · have ehs586295 : p585811.toInt = 7 := gj_eq hs586295 (show Int32.toInt 7 = 7 by decide)
    have bp585811' : gB p585811 7 7 := ⟨by omega, by omega⟩
    refine G_eqi (y := 7) hs586295 ?_
    refine G_tableIn 156 dr_cX17_count__6 (by decide) (by decide) (by first | rfl | decide) (by decide) ?_
    refine G_aload_n 0 dr_cX17_count__156 rfl ?_
    refine Gp_get 10 hm585815 he585872 dr_cX17_count__157 (gk_X17 D I) (Nat.le_of_ble_eq_true rfl) wr_7_84 rfl ?_
    refine G_if_eq 170 dr_cX17_count__160 (by decide +kernel) (fun hc586296 => ?_) (fun hc586296 => ?_)
    · have r586297 : p585820.toInt = 0 := gj_eq hc586296 (show Int32.toInt 0 = 0 by decide)
      have bp585820' : gB p585820 0 0 := gB_t0 r586297
      refine G_iconst 0 dr_cX17_count__170 (by decide +kernel) ?_
      have hT586298 : RS D I P585808 F585869 γ el := RS_set hT n585871 htq585810 (by decide) ⟨q585817, q585818, p585819, p585820, p585821, p585822, p585823, p585824, p585825, p585826, p585827, p585828, p585829, 0, p585831, p585832, p585833, he585872, ⟨bp585819, (gB_w bp585820' (by decide) (by decide)), (hB585860.2.2.1), (hB585860.2.2.2.1), (hB585860.2.2.2.2.1), (hB585860.2.2.2.2.2.1), (hB585860.2.2.2.2.2.2.1), bp585831, (hB585860.2.2.2.2.2.2.2.2)⟩, ht585834, ht585835, ht585836, ht585837, ht585838, ht585839, ht585840, ht585841, ht585842, ht585843, ht585844, ht585845, ht585846, ht585847, ht585848, ht585849, ht585850, ht585851, ht585852, ht585853, ht585854, ht585855, ht585856, ht585857, hB585861⟩
      have ac586299 : (fI (F585869 q585810) 9).toInt = p585819.toInt := by rw [he585872]; rfl
      have ac586300 : (fI (F585869 q585810) 10).toInt = p585820.toInt := by rw [he585872]; rfl
      have ac586301 : (fI (F585869 q585810) 32).toInt = p585831.toInt := by rw [he585872]; rfl
      exact G_iretA dr_cX17_count__171 rfl (Nat.le_of_ble_eq_true rfl) (Nat.le_of_ble_eq_true rfl) ⟨F585869, 0, rfl, rfl, hT586298, hs585873, (Nat.le_of_ble_eq_true rfl), (Nat.le_of_ble_eq_true rfl), (by have qa0 : Int32.toInt 0 = 0 := (by decide); omega), (by have qa0 : Int32.toInt 0 = 0 := (by decide); omega), (by have qa0 : Int32.toInt 0 = 0 := (by decide); omega)⟩
    · have r586302 : p585820.toInt ≠ 0 := gj_neq hc586296 (show Int32.toInt 0 = 0 by decide)
      have bp585820' : gB p585820 1 1 := gB_t1 bp585820 r586302
      refine G_aload_n 0 dr_cX17_count__163 rfl ?_
      refine Gp_get 11 hm585815 he585872 dr_cX17_count__164 (gk_X17 D I) (Nat.le_of_ble_eq_true rfl) wr_7_85 rfl ?_
      have bp585821 : gB p585821 0 100 := (hB585860.2.2.1)
      refine G_goto 171 dr_cX17_count__167 (by decide +kernel) ?_
      have hT586303 : RS D I P585808 F585869 γ el := RS_set hT n585871 htq585810 (by decide) ⟨q585817, q585818, p585819, p585820, p585821, p585822, p585823, p585824, p585825, p585826, p585827, p585828, p585829, 0, p585831, p585832, p585833, he585872, ⟨bp585819, (gB_w bp585820' (by decide) (by decide)), bp585821, (hB585860.2.2.2.1), (hB585860.2.2.2.2.1), (hB585860.2.2.2.2.2.1), (hB585860.2.2.2.2.2.2.1), bp585831, (hB585860.2.2.2.2.2.2.2.2)⟩, ht585834, ht585835, ht585836, ht585837, ht585838, ht585839, ht585840, ht585841, ht585842, ht585843, ht585844, ht585845, ht585846, ht585847, ht585848, ht585849, ht585850, ht585851, ht585852, ht585853, ht585854, ht585855, ht585856, ht585857, hB585861⟩
      have ac586304 : (fI (F585869 q585810) 9).toInt = p585819.toInt := by rw [he585872]; rfl
      have ac586305 : (fI (F585869 q585810) 10).toInt = p585820.toInt := by rw [he585872]; rfl
      have ac586306 : (fI (F585869 q585810) 32).toInt = p585831.toInt := by rw [he585872]; rfl
      exact G_iretA dr_cX17_count__171 rfl (Nat.le_of_ble_eq_true rfl) (Nat.le_of_ble_eq_true rfl) ⟨F585869, p585821, rfl, rfl, hT586303, hs585873, (Nat.le_of_ble_eq_true rfl), (Nat.le_of_ble_eq_true rfl), (by omega), (by omega), (by omega)⟩
  by_cases hs586307 : p585811 = 8
  · have ehs586307 : p585811.toInt = 8 := gj_eq hs586307 (show Int32.toInt 8 = 8 by decide)
    have bp585811' : gB p585811 8 8 := ⟨by omega, by omega⟩
    refine G_eqi (y := 8) hs586307 ?_
    refine G_tableIn 172 dr_cX17_count__6 (by decide) (by decide) (by first | rfl | decide) (by decide) ?_
    refine G_aload_n 0 dr_cX17_count__172 rfl ?_
    refine Gp_get 10 hm585815 he585872 dr_cX17_count__173 (gk_X17 D I) (Nat.le_of_ble_eq_true rfl) wr_7_84 rfl ?_
    refine G_if_eq 186 dr_cX17_count__176 (by decide +kernel) (fun hc586308 => ?_) (fun hc586308 => ?_)
    · have r586309 : p585820.toInt = 0 := gj_eq hc586308 (show Int32.toInt 0 = 0 by decide)
      have bp585820' : gB p585820 0 0 := gB_t0 r586309
      refine G_iconst 0 dr_cX17_count__186 (by decide +kernel) ?_
      have hT586310 : RS D I P585808 F585869 γ el := RS_set hT n585871 htq585810 (by decide) ⟨q585817, q585818, p585819, p585820, p585821, p585822, p585823, p585824, p585825, p585826, p585827, p585828, p585829, 0, p585831, p585832, p585833, he585872, ⟨bp585819, (gB_w bp585820' (by decide) (by decide)), (hB585860.2.2.1), (hB585860.2.2.2.1), (hB585860.2.2.2.2.1), (hB585860.2.2.2.2.2.1), (hB585860.2.2.2.2.2.2.1), bp585831, (hB585860.2.2.2.2.2.2.2.2)⟩, ht585834, ht585835, ht585836, ht585837, ht585838, ht585839, ht585840, ht585841, ht585842, ht585843, ht585844, ht585845, ht585846, ht585847, ht585848, ht585849, ht585850, ht585851, ht585852, ht585853, ht585854, ht585855, ht585856, ht585857, hB585861⟩
      have ac586311 : (fI (F585869 q585810) 9).toInt = p585819.toInt := by rw [he585872]; rfl
      have ac586312 : (fI (F585869 q585810) 10).toInt = p585820.toInt := by rw [he585872]; rfl
      have ac586313 : (fI (F585869 q585810) 32).toInt = p585831.toInt := by rw [he585872]; rfl
      exact G_iretA dr_cX17_count__187 rfl (Nat.le_of_ble_eq_true rfl) (Nat.le_of_ble_eq_true rfl) ⟨F585869, 0, rfl, rfl, hT586310, hs585873, (Nat.le_of_ble_eq_true rfl), (Nat.le_of_ble_eq_true rfl), (by have qa0 : Int32.toInt 0 = 0 := (by decide); omega), (by have qa0 : Int32.toInt 0 = 0 := (by decide); omega), (by have qa0 : Int32.toInt 0 = 0 := (by decide); omega)⟩
    · have r586314 : p585820.toInt ≠ 0 := gj_neq hc586308 (show Int32.toInt 0 = 0 by decide)
      have bp585820' : gB p585820 1 1 := gB_t1 bp585820 r586314
      refine G_aload_n 0 dr_cX17_count__179 rfl ?_
      refine Gp_get 12 hm585815 he585872 dr_cX17_count__180 (gk_X17 D I) (Nat.le_of_ble_eq_true rfl) wr_7_86 rfl ?_
      have bp585822 : gB p585822 (-2147483648) 2147483647 := (gB_any p585822)
      refine G_goto 187 dr_cX17_count__183 (by decide +kernel) ?_
      have hT586315 : RS D I P585808 F585869 γ el := RS_set hT n585871 htq585810 (by decide) ⟨q585817, q585818, p585819, p585820, p585821, p585822, p585823, p585824, p585825, p585826, p585827, p585828, p585829, 0, p585831, p585832, p585833, he585872, ⟨bp585819, (gB_w bp585820' (by decide) (by decide)), (hB585860.2.2.1), (hB585860.2.2.2.1), (hB585860.2.2.2.2.1), (hB585860.2.2.2.2.2.1), (hB585860.2.2.2.2.2.2.1), bp585831, (hB585860.2.2.2.2.2.2.2.2)⟩, ht585834, ht585835, ht585836, ht585837, ht585838, ht585839, ht585840, ht585841, ht585842, ht585843, ht585844, ht585845, ht585846, ht585847, ht585848, ht585849, ht585850, ht585851, ht585852, ht585853, ht585854, ht585855, ht585856, ht585857, hB585861⟩
      have ac586316 : (fI (F585869 q585810) 9).toInt = p585819.toInt := by rw [he585872]; rfl
      have ac586317 : (fI (F585869 q585810) 10).toInt = p585820.toInt := by rw [he585872]; rfl
      have ac586318 : (fI (F585869 q585810) 32).toInt = p585831.toInt := by rw [he585872]; rfl
      exact G_iretA dr_cX17_count__187 rfl (Nat.le_of_ble_eq_true rfl) (Nat.le_of_ble_eq_true rfl) ⟨F585869, p585822, rfl, rfl, hT586315, hs585873, (Nat.le_of_ble_eq_true rfl), (Nat.le_of_ble_eq_true rfl), (by omega), (by omega), (by omega)⟩
  by_cases hs586319 : p585811 = 9
  · have ehs586319 : p585811.toInt = 9 := gj_eq hs586319 (show Int32.toInt 9 = 9 by decide)
    have bp585811' : gB p585811 9 9 := ⟨by omega, by omega⟩
    refine G_eqi (y := 9) hs586319 ?_
    refine G_tableIn 188 dr_cX17_count__6 (by decide) (by decide) (by first | rfl | decide) (by decide) ?_
    refine G_aload_n 0 dr_cX17_count__188 rfl ?_
    refine Gp_get 10 hm585815 he585872 dr_cX17_count__189 (gk_X17 D I) (Nat.le_of_ble_eq_true rfl) wr_7_84 rfl ?_
    refine G_if_eq 202 dr_cX17_count__192 (by decide +kernel) (fun hc586320 => ?_) (fun hc586320 => ?_)
    · have r586321 : p585820.toInt = 0 := gj_eq hc586320 (show Int32.toInt 0 = 0 by decide)
      have bp585820' : gB p585820 0 0 := gB_t0 r586321
      refine G_iconst 0 dr_cX17_count__202 (by decide +kernel) ?_
      have hT586322 : RS D I P585808 F585869 γ el := RS_set hT n585871 htq585810 (by decide) ⟨q585817, q585818, p585819, p585820, p585821, p585822, p585823, p585824, p585825, p585826, p585827, p585828, p585829, 0, p585831, p585832, p585833, he585872, ⟨bp585819, (gB_w bp585820' (by decide) (by decide)), (hB585860.2.2.1), (hB585860.2.2.2.1), (hB585860.2.2.2.2.1), (hB585860.2.2.2.2.2.1), (hB585860.2.2.2.2.2.2.1), bp585831, (hB585860.2.2.2.2.2.2.2.2)⟩, ht585834, ht585835, ht585836, ht585837, ht585838, ht585839, ht585840, ht585841, ht585842, ht585843, ht585844, ht585845, ht585846, ht585847, ht585848, ht585849, ht585850, ht585851, ht585852, ht585853, ht585854, ht585855, ht585856, ht585857, hB585861⟩
      have ac586323 : (fI (F585869 q585810) 9).toInt = p585819.toInt := by rw [he585872]; rfl
      have ac586324 : (fI (F585869 q585810) 10).toInt = p585820.toInt := by rw [he585872]; rfl
      have ac586325 : (fI (F585869 q585810) 32).toInt = p585831.toInt := by rw [he585872]; rfl
      exact G_iretA dr_cX17_count__203 rfl (Nat.le_of_ble_eq_true rfl) (Nat.le_of_ble_eq_true rfl) ⟨F585869, 0, rfl, rfl, hT586322, hs585873, (Nat.le_of_ble_eq_true rfl), (Nat.le_of_ble_eq_true rfl), (by have qa0 : Int32.toInt 0 = 0 := (by decide); omega), (by have qa0 : Int32.toInt 0 = 0 := (by decide); omega), (by have qa0 : Int32.toInt 0 = 0 := (by decide); omega)⟩
    · have r586326 : p585820.toInt ≠ 0 := gj_neq hc586320 (show Int32.toInt 0 = 0 by decide)
      have bp585820' : gB p585820 1 1 := gB_t1 bp585820 r586326
      refine G_aload_n 0 dr_cX17_count__195 rfl ?_
      refine Gp_get 13 hm585815 he585872 dr_cX17_count__196 (gk_X17 D I) (Nat.le_of_ble_eq_true rfl) wr_7_87 rfl ?_
      have bp585823 : gB p585823 (-2147483648) 2147483647 := (gB_any p585823)
      refine G_goto 203 dr_cX17_count__199 (by decide +kernel) ?_
      have hT586327 : RS D I P585808 F585869 γ el := RS_set hT n585871 htq585810 (by decide) ⟨q585817, q585818, p585819, p585820, p585821, p585822, p585823, p585824, p585825, p585826, p585827, p585828, p585829, 0, p585831, p585832, p585833, he585872, ⟨bp585819, (gB_w bp585820' (by decide) (by decide)), (hB585860.2.2.1), (hB585860.2.2.2.1), (hB585860.2.2.2.2.1), (hB585860.2.2.2.2.2.1), (hB585860.2.2.2.2.2.2.1), bp585831, (hB585860.2.2.2.2.2.2.2.2)⟩, ht585834, ht585835, ht585836, ht585837, ht585838, ht585839, ht585840, ht585841, ht585842, ht585843, ht585844, ht585845, ht585846, ht585847, ht585848, ht585849, ht585850, ht585851, ht585852, ht585853, ht585854, ht585855, ht585856, ht585857, hB585861⟩
      have ac586328 : (fI (F585869 q585810) 9).toInt = p585819.toInt := by rw [he585872]; rfl
      have ac586329 : (fI (F585869 q585810) 10).toInt = p585820.toInt := by rw [he585872]; rfl
      have ac586330 : (fI (F585869 q585810) 32).toInt = p585831.toInt := by rw [he585872]; rfl
      exact G_iretA dr_cX17_count__203 rfl (Nat.le_of_ble_eq_true rfl) (Nat.le_of_ble_eq_true rfl) ⟨F585869, p585823, rfl, rfl, hT586327, hs585873, (Nat.le_of_ble_eq_true rfl), (Nat.le_of_ble_eq_true rfl), (by omega), (by omega), (by omega)⟩
  by_cases hs586331 : p585811 = 10
  · have ehs586331 : p585811.toInt = 10 := gj_eq hs586331 (show Int32.toInt 10 = 10 by decide)
    have bp585811' : gB p585811 10 10 := ⟨by omega, by omega⟩
    refine G_eqi (y := 10) hs586331 ?_
    refine G_tableIn 204 dr_cX17_count__6 (by decide) (by decide) (by first | rfl | decide) (by decide) ?_
    refine G_aload_n 0 dr_cX17_count__204 rfl ?_
    refine Gp_get 10 hm585815 he585872 dr_cX17_count__205 (gk_X17 D I) (Nat.le_of_ble_eq_true rfl) wr_7_84 rfl ?_
    refine G_if_eq 223 dr_cX17_count__208 (by decide +kernel) (fun hc586332 => ?_) (fun hc586332 => ?_)
    · have r586333 : p585820.toInt = 0 := gj_eq hc586332 (show Int32.toInt 0 = 0 by decide)
      have bp585820' : gB p585820 0 0 := gB_t0 r586333
      refine G_iconst 0 dr_cX17_count__223 (by decide +kernel) ?_
      have hT586334 : RS D I P585808 F585869 γ el := RS_set hT n585871 htq585810 (by decide) ⟨q585817, q585818, p585819, p585820, p585821, p585822, p585823, p585824, p585825, p585826, p585827, p585828, p585829, 0, p585831, p585832, p585833, he585872, ⟨bp585819, (gB_w bp585820' (by decide) (by decide)), (hB585860.2.2.1), (hB585860.2.2.2.1), (hB585860.2.2.2.2.1), (hB585860.2.2.2.2.2.1), (hB585860.2.2.2.2.2.2.1), bp585831, (hB585860.2.2.2.2.2.2.2.2)⟩, ht585834, ht585835, ht585836, ht585837, ht585838, ht585839, ht585840, ht585841, ht585842, ht585843, ht585844, ht585845, ht585846, ht585847, ht585848, ht585849, ht585850, ht585851, ht585852, ht585853, ht585854, ht585855, ht585856, ht585857, hB585861⟩
      have ac586335 : (fI (F585869 q585810) 9).toInt = p585819.toInt := by rw [he585872]; rfl
      have ac586336 : (fI (F585869 q585810) 10).toInt = p585820.toInt := by rw [he585872]; rfl
      have ac586337 : (fI (F585869 q585810) 32).toInt = p585831.toInt := by rw [he585872]; rfl
      exact G_iretA dr_cX17_count__224 rfl (Nat.le_of_ble_eq_true rfl) (Nat.le_of_ble_eq_true rfl) ⟨F585869, 0, rfl, rfl, hT586334, hs585873, (Nat.le_of_ble_eq_true rfl), (Nat.le_of_ble_eq_true rfl), (by have qa0 : Int32.toInt 0 = 0 := (by decide); omega), (by have qa0 : Int32.toInt 0 = 0 := (by decide); omega), (by have qa0 : Int32.toInt 0 = 0 := (by decide); omega)⟩
    · have r586338 : p585820.toInt ≠ 0 := gj_neq hc586332 (show Int32.toInt 0 = 0 by decide)
      have bp585820' : gB p585820 1 1 := gB_t1 bp585820 r586338
      refine G_aload_n 0 dr_cX17_count__211 rfl ?_
      refine Gp_get 7 hm585815 he585872 dr_cX17_count__212 (gk_X17 D I) (Nat.le_of_ble_eq_true rfl) wr_7_81 rfl ?_
      refine G_bipush 21 dr_cX17_count__215 (by decide +kernel) ?_
      have hT586339 : RS D I P585808 F585869 γ el := RS_set hT n585871 htq585810 (by decide) ⟨q585817, q585818, p585819, p585820, p585821, p585822, p585823, p585824, p585825, p585826, p585827, p585828, p585829, 0, p585831, p585832, p585833, he585872, ⟨bp585819, (gB_w bp585820' (by decide) (by decide)), (hB585860.2.2.1), (hB585860.2.2.2.1), (hB585860.2.2.2.2.1), (hB585860.2.2.2.2.2.1), (hB585860.2.2.2.2.2.2.1), bp585831, (hB585860.2.2.2.2.2.2.2.2)⟩, ht585834, ht585835, ht585836, ht585837, ht585838, ht585839, ht585840, ht585841, ht585842, ht585843, ht585844, ht585845, ht585846, ht585847, ht585848, ht585849, ht585850, ht585851, ht585852, ht585853, ht585854, ht585855, ht585856, ht585857, hB585861⟩
      have hm586345 : (γ 9 7) ∈ P585808 := RS_m hT586339 ht585843 (by decide)
      obtain ⟨q586347, q586348, p586349, p586350, he586346, ht586366, ht586351, ht586352, ht586353, ht586354, r586355, r586356, r586357, r586358, r586359, r586360, r586361, r586362, r586363, r586364, r586365⟩ := show rk_9 γ el (γ 9 7) (F585869 (γ 9 7)) from RS_o hT586339 ht585843
      have bp586349 : gB p586349 0 1000000 := ⟨by omega, by omega⟩
      have bp586350 : gB p586350 0 1000000 := ⟨by omega, by omega⟩
      refine Gw_callV (As := [.int 21]) (gV_ok D I) (ct_8782_Code_count l hl0 D I γ el P585808 F585869 (γ 9 7) 21 hT586339 ht585843 (by have qa0 : Int32.toInt 0 = 0 := (by decide); omega)) dr_cX17_count__217 ⟨wr_11_79, wr_1_15, wr_11_82, by decide, rfl, (Nat.le_of_ble_eq_true rfl), (Nat.le_of_ble_eq_true rfl)⟩ wr_11_80 wr_11_81 hm586345 he586346 rfl (show 0 + 0 ≤ 0 by first | omega | decide) (show 0 + 0 ≤ 0 by first | omega | decide) (Nat.le_of_ble_eq_true rfl) (fun r586343 w586344 dc586340 ds586341 hp586342 => ?_) (fun _ _ _ _ _ z => z.elim)
      obtain ⟨o586367, rfl, rfl, hdc, hds, ht586368⟩ := hp586342
      have bo586367 := gB_any o586367
      change G _ _ _ _ _ _ _ (.int o586367 :: _) _ _ _
      refine G_widen (cs' := 0) (sl' := 0) (by omega) (by omega) ?_
      refine G_goto 224 dr_cX17_count__220 (by decide +kernel) ?_
      have ac586369 : (fI (F585869 q585810) 9).toInt = p585819.toInt := by rw [he585872]; rfl
      have ac586370 : (fI (F585869 q585810) 10).toInt = p585820.toInt := by rw [he585872]; rfl
      have ac586371 : (fI (F585869 q585810) 32).toInt = p585831.toInt := by rw [he585872]; rfl
      exact G_iretA dr_cX17_count__224 rfl (Nat.le_of_ble_eq_true rfl) (Nat.le_of_ble_eq_true rfl) ⟨F585869, o586367, rfl, rfl, hT586339, hs585873, (Nat.le_of_ble_eq_true rfl), (Nat.le_of_ble_eq_true rfl), (by omega), (by omega), (by omega)⟩
  by_cases hs586372 : p585811 = 11
  · have ehs586372 : p585811.toInt = 11 := gj_eq hs586372 (show Int32.toInt 11 = 11 by decide)
    have bp585811' : gB p585811 11 11 := ⟨by omega, by omega⟩
    refine G_eqi (y := 11) hs586372 ?_
    refine G_tableIn 225 dr_cX17_count__6 (by decide) (by decide) (by first | rfl | decide) (by decide) ?_
    refine G_aload_n 0 dr_cX17_count__225 rfl ?_
    refine Gp_get 10 hm585815 he585872 dr_cX17_count__226 (gk_X17 D I) (Nat.le_of_ble_eq_true rfl) wr_7_84 rfl ?_
    refine G_if_eq 244 dr_cX17_count__229 (by decide +kernel) (fun hc586373 => ?_) (fun hc586373 => ?_)
    · have r586374 : p585820.toInt = 0 := gj_eq hc586373 (show Int32.toInt 0 = 0 by decide)
      have bp585820' : gB p585820 0 0 := gB_t0 r586374
      refine G_iconst 0 dr_cX17_count__244 (by decide +kernel) ?_
      have hT586375 : RS D I P585808 F585869 γ el := RS_set hT n585871 htq585810 (by decide) ⟨q585817, q585818, p585819, p585820, p585821, p585822, p585823, p585824, p585825, p585826, p585827, p585828, p585829, 0, p585831, p585832, p585833, he585872, ⟨bp585819, (gB_w bp585820' (by decide) (by decide)), (hB585860.2.2.1), (hB585860.2.2.2.1), (hB585860.2.2.2.2.1), (hB585860.2.2.2.2.2.1), (hB585860.2.2.2.2.2.2.1), bp585831, (hB585860.2.2.2.2.2.2.2.2)⟩, ht585834, ht585835, ht585836, ht585837, ht585838, ht585839, ht585840, ht585841, ht585842, ht585843, ht585844, ht585845, ht585846, ht585847, ht585848, ht585849, ht585850, ht585851, ht585852, ht585853, ht585854, ht585855, ht585856, ht585857, hB585861⟩
      have ac586376 : (fI (F585869 q585810) 9).toInt = p585819.toInt := by rw [he585872]; rfl
      have ac586377 : (fI (F585869 q585810) 10).toInt = p585820.toInt := by rw [he585872]; rfl
      have ac586378 : (fI (F585869 q585810) 32).toInt = p585831.toInt := by rw [he585872]; rfl
      exact G_iretA dr_cX17_count__245 rfl (Nat.le_of_ble_eq_true rfl) (Nat.le_of_ble_eq_true rfl) ⟨F585869, 0, rfl, rfl, hT586375, hs585873, (Nat.le_of_ble_eq_true rfl), (Nat.le_of_ble_eq_true rfl), (by have qa0 : Int32.toInt 0 = 0 := (by decide); omega), (by have qa0 : Int32.toInt 0 = 0 := (by decide); omega), (by have qa0 : Int32.toInt 0 = 0 := (by decide); omega)⟩
    · have r586379 : p585820.toInt ≠ 0 := gj_neq hc586373 (show Int32.toInt 0 = 0 by decide)
      have bp585820' : gB p585820 1 1 := gB_t1 bp585820 r586379
      refine G_aload_n 0 dr_cX17_count__232 rfl ?_
      refine Gp_get 7 hm585815 he585872 dr_cX17_count__233 (gk_X17 D I) (Nat.le_of_ble_eq_true rfl) wr_7_81 rfl ?_
      refine G_bipush 23 dr_cX17_count__236 (by decide +kernel) ?_
      have hT586380 : RS D I P585808 F585869 γ el := RS_set hT n585871 htq585810 (by decide) ⟨q585817, q585818, p585819, p585820, p585821, p585822, p585823, p585824, p585825, p585826, p585827, p585828, p585829, 0, p585831, p585832, p585833, he585872, ⟨bp585819, (gB_w bp585820' (by decide) (by decide)), (hB585860.2.2.1), (hB585860.2.2.2.1), (hB585860.2.2.2.2.1), (hB585860.2.2.2.2.2.1), (hB585860.2.2.2.2.2.2.1), bp585831, (hB585860.2.2.2.2.2.2.2.2)⟩, ht585834, ht585835, ht585836, ht585837, ht585838, ht585839, ht585840, ht585841, ht585842, ht585843, ht585844, ht585845, ht585846, ht585847, ht585848, ht585849, ht585850, ht585851, ht585852, ht585853, ht585854, ht585855, ht585856, ht585857, hB585861⟩
      have hm586386 : (γ 9 7) ∈ P585808 := RS_m hT586380 ht585843 (by decide)
      obtain ⟨q586388, q586389, p586390, p586391, he586387, ht586407, ht586392, ht586393, ht586394, ht586395, r586396, r586397, r586398, r586399, r586400, r586401, r586402, r586403, r586404, r586405, r586406⟩ := show rk_9 γ el (γ 9 7) (F585869 (γ 9 7)) from RS_o hT586380 ht585843
      have bp586390 : gB p586390 0 1000000 := ⟨by omega, by omega⟩
      have bp586391 : gB p586391 0 1000000 := ⟨by omega, by omega⟩
      refine Gw_callV (As := [.int 23]) (gV_ok D I) (ct_8782_Code_count l hl0 D I γ el P585808 F585869 (γ 9 7) 23 hT586380 ht585843 (by have qa0 : Int32.toInt 0 = 0 := (by decide); omega)) dr_cX17_count__238 ⟨wr_11_79, wr_1_15, wr_11_82, by decide, rfl, (Nat.le_of_ble_eq_true rfl), (Nat.le_of_ble_eq_true rfl)⟩ wr_11_80 wr_11_81 hm586386 he586387 rfl (show 0 + 0 ≤ 0 by first | omega | decide) (show 0 + 0 ≤ 0 by first | omega | decide) (Nat.le_of_ble_eq_true rfl) (fun r586384 w586385 dc586381 ds586382 hp586383 => ?_) (fun _ _ _ _ _ z => z.elim)
      obtain ⟨o586408, rfl, rfl, hdc, hds, ht586409⟩ := hp586383
      have bo586408 := gB_any o586408
      change G _ _ _ _ _ _ _ (.int o586408 :: _) _ _ _
      refine G_widen (cs' := 0) (sl' := 0) (by omega) (by omega) ?_
      refine G_goto 245 dr_cX17_count__241 (by decide +kernel) ?_
      have ac586410 : (fI (F585869 q585810) 9).toInt = p585819.toInt := by rw [he585872]; rfl
      have ac586411 : (fI (F585869 q585810) 10).toInt = p585820.toInt := by rw [he585872]; rfl
      have ac586412 : (fI (F585869 q585810) 32).toInt = p585831.toInt := by rw [he585872]; rfl
      exact G_iretA dr_cX17_count__245 rfl (Nat.le_of_ble_eq_true rfl) (Nat.le_of_ble_eq_true rfl) ⟨F585869, o586408, rfl, rfl, hT586380, hs585873, (Nat.le_of_ble_eq_true rfl), (Nat.le_of_ble_eq_true rfl), (by omega), (by omega), (by omega)⟩
  have ehs585874 := lv_neT hs585874 (show Int32.toInt 0 = 0 by decide)
  have ehs585913 := lv_neT hs585913 (show Int32.toInt 1 = 1 by decide)
  have ehs585954 := lv_neT hs585954 (show Int32.toInt 2 = 2 by decide)
  have ehs585959 := lv_neT hs585959 (show Int32.toInt 3 = 3 by decide)
  have ehs585964 := lv_neT hs585964 (show Int32.toInt 4 = 4 by decide)
  have ehs585969 := lv_neT hs585969 (show Int32.toInt 5 = 5 by decide)
  have ehs586010 := lv_neT hs586010 (show Int32.toInt 6 = 6 by decide)
  have ehs586295 := lv_neT hs586295 (show Int32.toInt 7 = 7 by decide)
  have ehs586307 := lv_neT hs586307 (show Int32.toInt 8 = 8 by decide)
  have ehs586319 := lv_neT hs586319 (show Int32.toInt 9 = 9 by decide)
  have ehs586331 := lv_neT hs586331 (show Int32.toInt 10 = 10 by decide)
  have ehs586372 := lv_neT hs586372 (show Int32.toInt 11 = 11 by decide)
  refine G_tableOut 246 dr_cX17_count__6 (by omega) (by decide) ?_
  refine G_aload_n 0 dr_cX17_count__246 rfl ?_
  refine G_iconst 1 dr_cX17_count__247 (by decide +kernel) ?_
  have hT586413 : RS D I P585808 F585869 γ el := RS_set hT n585871 htq585810 (by decide) ⟨q585817, q585818, p585819, p585820, p585821, p585822, p585823, p585824, p585825, p585826, p585827, p585828, p585829, 0, p585831, p585832, p585833, he585872, ⟨bp585819, bp585820, (hB585860.2.2.1), (hB585860.2.2.2.1), (hB585860.2.2.2.2.1), (hB585860.2.2.2.2.2.1), (hB585860.2.2.2.2.2.2.1), bp585831, (hB585860.2.2.2.2.2.2.2.2)⟩, ht585834, ht585835, ht585836, ht585837, ht585838, ht585839, ht585840, ht585841, ht585842, ht585843, ht585844, ht585845, ht585846, ht585847, ht585848, ht585849, ht585850, ht585851, ht585852, ht585853, ht585854, ht585855, ht585856, ht585857, hB585861⟩
  have ac586414 : (fI (F585869 q585810) 9).toInt = p585819.toInt := by rw [he585872]; rfl
  have ac586415 : (fI (F585869 q585810) 10).toInt = p585820.toInt := by rw [he585872]; rfl
  have ac586416 : (fI (F585869 q585810) 32).toInt = p585831.toInt := by rw [he585872]; rfl
  refine Gw_callV (As := [.int 1]) (gV_ok D I) (ct_578426_SpillForgeModel_no l hl0 D I γ el P585808 F585869 q585810 1 hT586413 htq585810) dr_cX17_count__248 ⟨wr_7_191, wr_1_14, wr_7_194, by decide, rfl, (Nat.le_of_ble_eq_true rfl), (Nat.le_of_ble_eq_true rfl)⟩ wr_7_193 wr_p_73 hm585815 he585872 rfl (show 0 + 0 ≤ 0 by first | omega | decide) (show 0 + 0 ≤ 0 by first | omega | decide) (Nat.le_of_ble_eq_true rfl) (fun r586420 w586421 dc586417 ds586418 hp586419 => ?_) (fun _ _ _ _ _ z => z.elim)
  obtain ⟨F586426, rfl, rfl, hT586427, hs586428, hdc, hds, x586422, x586423, x586424, x586425⟩ := hp586419
  have hs586429 : rStr γ [] F585809 F586426 := rStr_tr hs585873 hs586428
  rw [show Int32.toInt 1 = 1 from by decide] at x586425
  change G _ _ _ _ _ _ _ (.int 0 :: _) _ _ _
  refine G_widen (cs' := 0) (sl' := 0) (by omega) (by omega) ?_
  have hm586430 : q585810 ∈ P585808 := RS_m hT586427 htq585810 (by decide)
  refine rk10_e (show rk_10 γ (F586426 q585810) from RS_o hT586427 htq585810) (fun q586432 q586433 p586434 p586435 p586436 p586437 p586438 p586439 p586440 p586441 p586442 p586443 p586444 p586445 p586446 p586447 p586448 he586431 hB586475 ht586449 ht586450 ht586451 ht586452 ht586453 ht586454 ht586455 ht586456 ht586457 ht586458 ht586459 ht586460 ht586461 ht586462 ht586463 ht586464 ht586465 ht586466 ht586467 ht586468 ht586469 ht586470 ht586471 ht586472 hB586476 => ?_)
  have ac586477 : (fI (F586426 q585810) 9).toInt = p586434.toInt := by rw [he586431]; rfl
  have bp586434 : gB p586434 0 1 := (hB586475.1)
  have ac586478 : (fI (F586426 q585810) 10).toInt = p586435.toInt := by rw [he586431]; rfl
  have bp586435 : gB p586435 0 1 := (hB586475.2.1)
  have ac586479 : (fI (F586426 q585810) 32).toInt = p586446.toInt := by rw [he586431]; rfl
  have bp586446 : gB p586446 0 8192 := (hB586475.2.2.2.2.2.2.2.1)
  have ac586480 : (fI (F586426 q585810) 9).toInt = p586434.toInt := by rw [he586431]; rfl
  have ac586481 : (fI (F586426 q585810) 10).toInt = p586435.toInt := by rw [he586431]; rfl
  have ac586482 : (fI (F586426 q585810) 32).toInt = p586446.toInt := by rw [he586431]; rfl
  exact G_iretA dr_cX17_count__251 rfl (Nat.le_of_ble_eq_true rfl) (Nat.le_of_ble_eq_true rfl) ⟨F586426, 0, rfl, rfl, hT586427, hs586429, (Nat.le_of_ble_eq_true rfl), (Nat.le_of_ble_eq_true rfl), (by have qa0 : Int32.toInt 0 = 0 := (by decide); omega), (by have qa0 : Int32.toInt 0 = 0 := (by decide); omega), (by have qa0 : Int32.toInt 0 = 0 := (by decide); omega)⟩
