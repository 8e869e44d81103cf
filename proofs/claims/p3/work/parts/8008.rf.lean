theorem dr_cX17_colourCount_0 : decode cX17_colourCount 0 = .ok (.iconst 0, 1) := by decide +kernel
theorem dr_cX17_colourCount_1 : decode cX17_colourCount 1 = .ok (.istore_n 1, 1) := by decide +kernel
theorem dr_cX17_colourCount_2 : decode cX17_colourCount 2 = .ok (.aload_n 0, 1) := by decide +kernel
theorem dr_cX17_colourCount_3 : decode cX17_colourCount 3 = .ok (.aload_n 0, 1) := by decide +kernel
theorem dr_cX17_colourCount_4 : decode cX17_colourCount 4 = .ok (.getfield 365, 3) := by decide +kernel
theorem dr_cX17_colourCount_7 : decode cX17_colourCount 7 = .ok (.iconst 0, 1) := by decide +kernel
theorem dr_cX17_colourCount_8 : decode cX17_colourCount 8 = .ok (.invokevirtual 243, 3) := by decide +kernel
theorem dr_cX17_colourCount_11 : decode cX17_colourCount 11 = .ok (.iconst 0, 1) := by decide +kernel
theorem dr_cX17_colourCount_12 : decode cX17_colourCount 12 = .ok (.istore_n 2, 1) := by decide +kernel
theorem dr_cX17_colourCount_13 : decode cX17_colourCount 13 = .ok (.iload_n 2, 1) := by decide +kernel
theorem dr_cX17_colourCount_14 : decode cX17_colourCount 14 = .ok (.sipush 2000, 3) := by decide +kernel
theorem dr_cX17_colourCount_17 : decode cX17_colourCount 17 = .ok (.if_icmp .ge 26, 3) := by decide +kernel
theorem dr_cX17_colourCount_43 : decode cX17_colourCount 43 = .ok (.iload_n 1, 1) := by decide +kernel
theorem dr_cX17_colourCount_44 : decode cX17_colourCount 44 = .ok (.ireturn, 1) := by decide +kernel
theorem dr_cX17_colourCount_20 : decode cX17_colourCount 20 = .ok (.iload_n 1, 1) := by decide +kernel
theorem dr_cX17_colourCount_21 : decode cX17_colourCount 21 = .ok (.aload_n 0, 1) := by decide +kernel
theorem dr_cX17_colourCount_22 : decode cX17_colourCount 22 = .ok (.getfield 131, 3) := by decide +kernel
theorem dr_cX17_colourCount_25 : decode cX17_colourCount 25 = .ok (.iload_n 2, 1) := by decide +kernel
theorem dr_cX17_colourCount_26 : decode cX17_colourCount 26 = .ok (.baload, 1) := by decide +kernel
theorem dr_cX17_colourCount_27 : decode cX17_colourCount 27 = .ok (.ifCond .eq 7, 3) := by decide +kernel
theorem dr_cX17_colourCount_34 : decode cX17_colourCount 34 = .ok (.iconst 0, 1) := by decide +kernel
theorem dr_cX17_colourCount_35 : decode cX17_colourCount 35 = .ok (.iadd, 1) := by decide +kernel
theorem dr_cX17_colourCount_36 : decode cX17_colourCount 36 = .ok (.istore_n 1, 1) := by decide +kernel
theorem dr_cX17_colourCount_37 : decode cX17_colourCount 37 = .ok (.iinc 2 1, 3) := by decide +kernel
theorem dr_cX17_colourCount_40 : decode cX17_colourCount 40 = .ok (.goto (-27), 3) := by decide +kernel
theorem dr_cX17_colourCount_30 : decode cX17_colourCount 30 = .ok (.iconst 1, 1) := by decide +kernel
theorem dr_cX17_colourCount_31 : decode cX17_colourCount 31 = .ok (.goto 4, 3) := by decide +kernel
theorem dr_cX17_count__0 : decode cX17_count_ 0 = .ok (.aload_n 0, 1) := by decide +kernel
theorem dr_cX17_count__1 : decode cX17_count_ 1 = .ok (.iconst 0, 1) := by decide +kernel
theorem dr_cX17_count__2 : decode cX17_count_ 2 = .ok (.putfield 380, 3) := by decide +kernel
theorem dr_cX17_count__5 : decode cX17_count_ 5 = .ok (.iload_n 1, 1) := by decide +kernel
theorem dr_cX17_count__6 : decode cX17_count_ 6 = .ok (.tableswitch 240 0 11 #[62, 81, 100, 105, 110, 115, 134, 150, 166, 182, 198, 219], 62) := by decide +kernel
theorem dr_cX17_count__68 : decode cX17_count_ 68 = .ok (.aload_n 0, 1) := by decide +kernel
theorem dr_cX17_count__69 : decode cX17_count_ 69 = .ok (.getfield 414, 3) := by decide +kernel
theorem dr_cX17_count__72 : decode cX17_count_ 72 = .ok (.ifCond .eq 13, 3) := by decide +kernel
theorem dr_cX17_count__85 : decode cX17_count_ 85 = .ok (.iconst 0, 1) := by decide +kernel
theorem dr_cX17_count__86 : decode cX17_count_ 86 = .ok (.ireturn, 1) := by decide +kernel
theorem dr_cX17_count__75 : decode cX17_count_ 75 = .ok (.aload_n 0, 1) := by decide +kernel
theorem dr_cX17_count__76 : decode cX17_count_ 76 = .ok (.getfield 361, 3) := by decide +kernel
theorem dr_cX17_count__79 : decode cX17_count_ 79 = .ok (.invokevirtual 96, 3) := by decide +kernel
theorem dr_cX17_count__82 : decode cX17_count_ 82 = .ok (.goto 4, 3) := by decide +kernel
theorem dr_cX17_count__87 : decode cX17_count_ 87 = .ok (.aload_n 0, 1) := by decide +kernel
theorem dr_cX17_count__88 : decode cX17_count_ 88 = .ok (.getfield 414, 3) := by decide +kernel
theorem dr_cX17_count__91 : decode cX17_count_ 91 = .ok (.ifCond .eq 13, 3) := by decide +kernel
theorem dr_cX17_count__104 : decode cX17_count_ 104 = .ok (.iconst 0, 1) := by decide +kernel
theorem dr_cX17_count__105 : decode cX17_count_ 105 = .ok (.ireturn, 1) := by decide +kernel
theorem dr_cX17_count__94 : decode cX17_count_ 94 = .ok (.aload_n 0, 1) := by decide +kernel
theorem dr_cX17_count__95 : decode cX17_count_ 95 = .ok (.getfield 361, 3) := by decide +kernel
theorem dr_cX17_count__98 : decode cX17_count_ 98 = .ok (.invokevirtual 234, 3) := by decide +kernel
theorem wr_10_229 : (Jvm.Cond.methodLink "SpillForgeModel" (234 : Nat) ({ cls := "SpillForgeModel$Code", name := "countRows", desc := "()I" } : Jvm.MethodName)) ∈ gw := gw_10 229 rfl rfl
theorem wr_10_232 : (Jvm.Cond.code ({ cls := "SpillForgeModel$Code", name := "countRows", desc := "()I" } : Jvm.MethodName) prog_16_method_7_code (3 : Nat) (Option.some Jvm.ClassFile.FieldType.int)) ∈ gw := gw_10 232 rfl rfl
theorem wr_10_230 : (Jvm.Cond.instanceMethod ({ cls := "SpillForgeModel$Code", name := "countRows", desc := "()I" } : Jvm.MethodName)) ∈ gw := gw_10 230 rfl rfl
theorem wr_10_231 : (Jvm.Cond.selects "SpillForgeModel$Code" ({ cls := "SpillForgeModel$Code", name := "countRows", desc := "()I" } : Jvm.MethodName) ({ cls := "SpillForgeModel$Code", name := "countRows", desc := "()I" } : Jvm.MethodName)) ∈ gw := gw_10 231 rfl rfl
theorem dr_cX17_count__101 : decode cX17_count_ 101 = .ok (.goto 4, 3) := by decide +kernel
theorem dr_cX17_count__106 : decode cX17_count_ 106 = .ok (.aload_n 0, 1) := by decide +kernel
theorem dr_cX17_count__107 : decode cX17_count_ 107 = .ok (.getfield 392, 3) := by decide +kernel
theorem wr_7_107 : (Jvm.Cond.fieldLink "SpillForgeModel" (392 : Nat) "SpillForgeModel" "reason" "I") ∈ gw := gw_7 107 rfl rfl
theorem dr_cX17_count__110 : decode cX17_count_ 110 = .ok (.ireturn, 1) := by decide +kernel
theorem dr_cX17_count__111 : decode cX17_count_ 111 = .ok (.aload_n 0, 1) := by decide +kernel
theorem dr_cX17_count__112 : decode cX17_count_ 112 = .ok (.getfield 383, 3) := by decide +kernel
theorem dr_cX17_count__115 : decode cX17_count_ 115 = .ok (.ireturn, 1) := by decide +kernel
theorem dr_cX17_count__116 : decode cX17_count_ 116 = .ok (.aload_n 0, 1) := by decide +kernel
theorem dr_cX17_count__117 : decode cX17_count_ 117 = .ok (.getfield 426, 3) := by decide +kernel
theorem wr_7_108 : (Jvm.Cond.fieldLink "SpillForgeModel" (426 : Nat) "SpillForgeModel" "results" "I") ∈ gw := gw_7 108 rfl rfl
theorem dr_cX17_count__120 : decode cX17_count_ 120 = .ok (.ireturn, 1) := by decide +kernel
theorem dr_cX17_count__121 : decode cX17_count_ 121 = .ok (.aload_n 0, 1) := by decide +kernel
theorem dr_cX17_count__122 : decode cX17_count_ 122 = .ok (.getfield 416, 3) := by decide +kernel
theorem dr_cX17_count__125 : decode cX17_count_ 125 = .ok (.ifCond .eq 13, 3) := by decide +kernel
theorem dr_cX17_count__138 : decode cX17_count_ 138 = .ok (.iconst 0, 1) := by decide +kernel
theorem dr_cX17_count__139 : decode cX17_count_ 139 = .ok (.ireturn, 1) := by decide +kernel
theorem dr_cX17_count__128 : decode cX17_count_ 128 = .ok (.aload_n 0, 1) := by decide +kernel
theorem dr_cX17_count__129 : decode cX17_count_ 129 = .ok (.getfield 365, 3) := by decide +kernel
theorem dr_cX17_count__132 : decode cX17_count_ 132 = .ok (.invokevirtual 234, 3) := by decide +kernel
theorem dr_cX17_count__135 : decode cX17_count_ 135 = .ok (.goto 4, 3) := by decide +kernel
theorem dr_cX17_count__140 : decode cX17_count_ 140 = .ok (.aload_n 0, 1) := by decide +kernel
theorem dr_cX17_count__141 : decode cX17_count_ 141 = .ok (.getfield 416, 3) := by decide +kernel
theorem dr_cX17_count__144 : decode cX17_count_ 144 = .ok (.ifCond .eq 10, 3) := by decide +kernel
theorem dr_cX17_count__154 : decode cX17_count_ 154 = .ok (.iconst 0, 1) := by decide +kernel
theorem dr_cX17_count__155 : decode cX17_count_ 155 = .ok (.ireturn, 1) := by decide +kernel
theorem dr_cX17_count__147 : decode cX17_count_ 147 = .ok (.aload_n 0, 1) := by decide +kernel
theorem dr_cX17_count__148 : decode cX17_count_ 148 = .ok (.invokevirtual 429, 3) := by decide +kernel
theorem wr_11_75 : (Jvm.Cond.methodLink "SpillForgeModel" (429 : Nat) ({ cls := "SpillForgeModel", name := "colourCount", desc := "()I" } : Jvm.MethodName)) ∈ gw := gw_11 75 rfl rfl
theorem wr_11_78 : (Jvm.Cond.code ({ cls := "SpillForgeModel", name := "colourCount", desc := "()I" } : Jvm.MethodName) prog_14_method_44_code (3 : Nat) (Option.some Jvm.ClassFile.FieldType.int)) ∈ gw := gw_11 78 rfl rfl
theorem wr_11_77 : (Jvm.Cond.instanceMethod ({ cls := "SpillForgeModel", name := "colourCount", desc := "()I" } : Jvm.MethodName)) ∈ gw := gw_11 77 rfl rfl
theorem wr_p_112 : Cond.selects "SpillForgeModel" ⟨"SpillForgeModel", "colourCount", "()I"⟩ ⟨"SpillForgeModel", "colourCount", "()I"⟩ ∈ gw := gw_p _ 112 rfl rfl rfl
theorem dr_cX17_count__151 : decode cX17_count_ 151 = .ok (.goto 4, 3) := by decide +kernel
theorem dr_cX17_count__156 : decode cX17_count_ 156 = .ok (.aload_n 0, 1) := by decide +kernel
theorem dr_cX17_count__157 : decode cX17_count_ 157 = .ok (.getfield 416, 3) := by decide +kernel
theorem dr_cX17_count__160 : decode cX17_count_ 160 = .ok (.ifCond .eq 10, 3) := by decide +kernel
theorem dr_cX17_count__170 : decode cX17_count_ 170 = .ok (.iconst 0, 1) := by decide +kernel
theorem dr_cX17_count__171 : decode cX17_count_ 171 = .ok (.ireturn, 1) := by decide +kernel
theorem dr_cX17_count__163 : decode cX17_count_ 163 = .ok (.aload_n 0, 1) := by decide +kernel
theorem dr_cX17_count__164 : decode cX17_count_ 164 = .ok (.getfield 224, 3) := by decide +kernel
theorem dr_cX17_count__167 : decode cX17_count_ 167 = .ok (.goto 4, 3) := by decide +kernel
theorem dr_cX17_count__172 : decode cX17_count_ 172 = .ok (.aload_n 0, 1) := by decide +kernel
theorem dr_cX17_count__173 : decode cX17_count_ 173 = .ok (.getfield 416, 3) := by decide +kernel
theorem dr_cX17_count__176 : decode cX17_count_ 176 = .ok (.ifCond .eq 10, 3) := by decide +kernel
theorem dr_cX17_count__186 : decode cX17_count_ 186 = .ok (.iconst 0, 1) := by decide +kernel
theorem dr_cX17_count__187 : decode cX17_count_ 187 = .ok (.ireturn, 1) := by decide +kernel
theorem dr_cX17_count__179 : decode cX17_count_ 179 = .ok (.aload_n 0, 1) := by decide +kernel
theorem dr_cX17_count__180 : decode cX17_count_ 180 = .ok (.getfield 237, 3) := by decide +kernel
theorem wr_7_86 : (Jvm.Cond.fieldLink "SpillForgeModel" (237 : Nat) "SpillForgeModel" "spilled" "I") ∈ gw := gw_7 86 rfl rfl
theorem dr_cX17_count__183 : decode cX17_count_ 183 = .ok (.goto 4, 3) := by decide +kernel
theorem dr_cX17_count__188 : decode cX17_count_ 188 = .ok (.aload_n 0, 1) := by decide +kernel
theorem dr_cX17_count__189 : decode cX17_count_ 189 = .ok (.getfield 416, 3) := by decide +kernel
theorem dr_cX17_count__192 : decode cX17_count_ 192 = .ok (.ifCond .eq 10, 3) := by decide +kernel
theorem dr_cX17_count__202 : decode cX17_count_ 202 = .ok (.iconst 0, 1) := by decide +kernel
theorem dr_cX17_count__203 : decode cX17_count_ 203 = .ok (.ireturn, 1) := by decide +kernel
theorem dr_cX17_count__195 : decode cX17_count_ 195 = .ok (.aload_n 0, 1) := by decide +kernel
theorem dr_cX17_count__196 : decode cX17_count_ 196 = .ok (.getfield 195, 3) := by decide +kernel
theorem dr_cX17_count__199 : decode cX17_count_ 199 = .ok (.goto 4, 3) := by decide +kernel
theorem dr_cX17_count__204 : decode cX17_count_ 204 = .ok (.aload_n 0, 1) := by decide +kernel
theorem dr_cX17_count__205 : decode cX17_count_ 205 = .ok (.getfield 416, 3) := by decide +kernel
theorem dr_cX17_count__208 : decode cX17_count_ 208 = .ok (.ifCond .eq 15, 3) := by decide +kernel
theorem dr_cX17_count__223 : decode cX17_count_ 223 = .ok (.iconst 0, 1) := by decide +kernel
theorem dr_cX17_count__224 : decode cX17_count_ 224 = .ok (.ireturn, 1) := by decide +kernel
theorem dr_cX17_count__211 : decode cX17_count_ 211 = .ok (.aload_n 0, 1) := by decide +kernel
theorem dr_cX17_count__212 : decode cX17_count_ 212 = .ok (.getfield 365, 3) := by decide +kernel
theorem dr_cX17_count__215 : decode cX17_count_ 215 = .ok (.bipush 21, 2) := by decide +kernel
theorem dr_cX17_count__217 : decode cX17_count_ 217 = .ok (.invokevirtual 432, 3) := by decide +kernel
theorem wr_11_79 : (Jvm.Cond.methodLink "SpillForgeModel" (432 : Nat) ({ cls := "SpillForgeModel$Code", name := "count", desc := "(I)I" } : Jvm.MethodName)) ∈ gw := gw_11 79 rfl rfl
theorem wr_11_82 : (Jvm.Cond.code ({ cls := "SpillForgeModel$Code", name := "count", desc := "(I)I" } : Jvm.MethodName) prog_16_method_8_code (5 : Nat) (Option.some Jvm.ClassFile.FieldType.int)) ∈ gw := gw_11 82 rfl rfl
theorem wr_11_80 : (Jvm.Cond.instanceMethod ({ cls := "SpillForgeModel$Code", name := "count", desc := "(I)I" } : Jvm.MethodName)) ∈ gw := gw_11 80 rfl rfl
theorem wr_11_81 : (Jvm.Cond.selects "SpillForgeModel$Code" ({ cls := "SpillForgeModel$Code", name := "count", desc := "(I)I" } : Jvm.MethodName) ({ cls := "SpillForgeModel$Code", name := "count", desc := "(I)I" } : Jvm.MethodName)) ∈ gw := gw_11 81 rfl rfl
theorem dr_cX17_count__220 : decode cX17_count_ 220 = .ok (.goto 4, 3) := by decide +kernel
theorem dr_cX17_count__225 : decode cX17_count_ 225 = .ok (.aload_n 0, 1) := by decide +kernel
theorem dr_cX17_count__226 : decode cX17_count_ 226 = .ok (.getfield 416, 3) := by decide +kernel
theorem dr_cX17_count__229 : decode cX17_count_ 229 = .ok (.ifCond .eq 15, 3) := by decide +kernel
theorem dr_cX17_count__244 : decode cX17_count_ 244 = .ok (.iconst 0, 1) := by decide +kernel
theorem dr_cX17_count__245 : decode cX17_count_ 245 = .ok (.ireturn, 1) := by decide +kernel
theorem dr_cX17_count__232 : decode cX17_count_ 232 = .ok (.aload_n 0, 1) := by decide +kernel
theorem dr_cX17_count__233 : decode cX17_count_ 233 = .ok (.getfield 365, 3) := by decide +kernel
theorem dr_cX17_count__236 : decode cX17_count_ 236 = .ok (.bipush 23, 2) := by decide +kernel
theorem dr_cX17_count__238 : decode cX17_count_ 238 = .ok (.invokevirtual 432, 3) := by decide +kernel
theorem dr_cX17_count__241 : decode cX17_count_ 241 = .ok (.goto 4, 3) := by decide +kernel
theorem dr_cX17_count__246 : decode cX17_count_ 246 = .ok (.aload_n 0, 1) := by decide +kernel
theorem dr_cX17_count__247 : decode cX17_count_ 247 = .ok (.iconst 1, 1) := by decide +kernel
theorem dr_cX17_count__248 : decode cX17_count_ 248 = .ok (.invokevirtual 385, 3) := by decide +kernel
theorem dr_cX17_count__251 : decode cX17_count_ 251 = .ok (.ireturn, 1) := by decide +kernel
abbrev ky_571100_SpillForgeModel_colourCount : gKey := (cX17_colourCount, 3, "SpillForgeModel", (some FieldType.int), [], "colourCount", fun _ _ => True)
def pt_571100_SpillForgeModel_colourCount (D : va_G) (I : FieldType → ClassId) (γ el : Nat → Nat → Nat) (P571096 : List Nat) (F571097 : Nat → va_E) (q571098 : Nat) : Option Value → va_W → Nat → Nat → Prop := fun r w dc ds => ∃ (F571351 : Nat → va_E) (o571350 : Int32), r = some (.int o571350) ∧ w = va_pl P571096 F571351 ∧ RS D I P571096 F571351 γ el ∧ rStr γ [] F571097 F571351 ∧ dc ≤ 0 ∧ ds ≤ 0 ∧ (F571351 q571098 = F571097 q571098)
set_option maxRecDepth 100000 in
set_option maxHeartbeats 4000000 in
theorem ct_571100_SpillForgeModel_colourCount (l : Launch) (hl0 : l.stackTraces = false) (D : va_G) (I : FieldType → ClassId) (γ el : Nat → Nat → Nat) (P571096 : List Nat) (F571097 : Nat → va_E) (q571098 : Nat) (hT : RS D I P571096 F571097 γ el) (htq571098 : rKd γ q571098 10) (x571099 : 0 < γ 6 1) : CtA (gV D I) l yX17_colourCount cX17_colourCount 3 (some FieldType.int) 6 141 0 0 [.ref q571098] (va_pl P571096 F571097) (pt_571100_SpillForgeModel_colourCount D I γ el P571096 F571097 q571098) gNA := by
  refine CtA_of hl0 (by decide) (Nat.le_of_ble_eq_true rfl) ?_
  have hm571101 : q571098 ∈ P571096 := RS_m hT htq571098 (by decide)
  refine rk10_e (show rk_10 γ (F571097 q571098) from RS_o hT htq571098) (fun q571103 q571104 p571105 p571106 p571107 p571108 p571109 p571110 p571111 p571112 p571113 p571114 p571115 p571116 p571117 p571118 p571119 he571102 hB571146 ht571120 ht571121 ht571122 ht571123 ht571124 ht571125 ht571126 ht571127 ht571128 ht571129 ht571130 ht571131 ht571132 ht571133 ht571134 ht571135 ht571136 ht571137 ht571138 ht571139 ht571140 ht571141 ht571142 ht571143 hB571147 => ?_)
  have fq571148 : γ 6 (γ 1 (γ 9 6)) = γ 6 0 := by rw [show γ 1 (γ 9 6) = 0 from ht571141]
  have fq571149 : γ 6 (γ 1 (γ 9 7)) = γ 6 1 := by rw [show γ 1 (γ 9 7) = 1 from ht571142]
  have fq571150 : γ 6 (γ 1 (γ 9 8)) = γ 6 2 := by rw [show γ 1 (γ 9 8) = 2 from ht571143]
  have r571151 : p571119.toInt ≤ γ 12 q571104 := by have z := hB571147; unfold rM2 at z; exact z.2.2
  refine G_iconst 0 dr_cX17_colourCount_0 (by decide +kernel) ?_
  refine G_istore_n (L' := [(1, .int 0), (0, .ref q571098)]) dr_cX17_colourCount_1 (Nat.le_of_ble_eq_true rfl) rfl ?_
  refine G_aload_n 1 dr_cX17_colourCount_2 rfl ?_
  refine G_aload_n 1 dr_cX17_colourCount_3 rfl ?_
  refine Gp_get 7 hm571101 he571102 dr_cX17_colourCount_4 (gk_X17 D I) (Nat.le_of_ble_eq_true rfl) wr_7_81 rfl ?_
  refine G_iconst 0 dr_cX17_colourCount_7 (by decide +kernel) ?_
  refine Gw_callV (As := [.ref (γ 9 7), .int 0]) (gV_ok D I) (ct_270222_SpillForgeModel_graph l hl0 D I γ el P571096 F571097 q571098 (γ 9 7) 0 hT htq571098 ht571129 (gB_w (gBl (show Int32.toInt 0 = 0 by decide)) (by decide) (by decide)) (by have qa0 : Int32.toInt 0 = 0 := (by decide); omega)) dr_cX17_colourCount_8 ⟨wr_10_233, wr_1_14, wr_10_236, by decide, rfl, (Nat.le_of_ble_eq_true rfl), (Nat.le_of_ble_eq_true rfl)⟩ wr_10_235 wr_p_99 hm571101 he571102 rfl (show 0 + 0 ≤ 0 by first | omega | decide) (show 0 + 0 ≤ 0 by first | omega | decide) (Nat.le_of_ble_eq_true rfl) (fun r571155 w571156 dc571152 ds571153 hp571154 => ?_) (fun _ _ _ _ _ z => z.elim)
  obtain ⟨F571159, rfl, rfl, hT571160, hs571161, hdc, hds, x571157, x571158⟩ := hp571154
  have hs571162 : rStr γ [] F571097 F571159 := rStr_tr (rStr_rf (γ := γ) (W := []) (F := F571097)) hs571161
  have kp571163 : F571159 q571098 = F571097 q571098 := x571158
  have he571164 : F571159 q571098 = .inr (22, [.ref (γ 9 0), .ref (γ 9 1), .ref (γ 9 2), .ref (γ 9 3), .ref (γ 9 4), .ref (γ 9 5), .ref (γ 9 6), .ref (γ 9 7), .ref (γ 9 8), .int p571105, .int p571106, .int p571107, .int p571108, .int p571109, .int p571110, .ref (γ 9 15), .ref (γ 9 16), .ref (γ 9 17), .ref (γ 9 18), .ref (γ 9 19), .ref (γ 9 20), .ref (γ 9 21), .ref (γ 9 22), .int p571111, .int p571112, .int p571113, .int p571114, .int p571115, .ref q571103, .ref (γ 9 29), .int p571116, .ref (γ 9 31), .int p571117, .int p571118, .int p571119, .ref q571104]) := (x571158).trans he571102
  rw [show Int32.toInt 0 = 0 from by decide] at x571157
  change G _ _ _ _ _ _ _ _ _ _ _
  refine G_widen (cs' := 0) (sl' := 0) (by omega) (by omega) ?_
  refine G_iconst 0 dr_cX17_colourCount_11 (by decide +kernel) ?_
  refine G_istore_n (L' := [(2, .int 0), (1, .int 0), (0, .ref q571098)]) dr_cX17_colourCount_12 (Nat.le_of_ble_eq_true rfl) rfl ?_
  have hlp13_571334 : ∀ (n13_571334 : Nat) (g571333 : Int32) (g571334 : Int32), gB g571333 0 2000 → ((2001 : Int) - g571333.toInt).toNat < n13_571334 → G (gV D I) l (gRm 6 141 0 0) (gMA (gV D I) (pt_571100_SpillForgeModel_colourCount D I γ el P571096 F571097 q571098) gNA 0 0) ky_571100_SpillForgeModel_colourCount 13 [(2, .int g571333), (1, .int g571334), (0, .ref q571098)] [] (va_pl P571096 F571159) 0 0 := by
    intro n13_571334
    induction n13_571334 with
    | zero => intro g571333 g571334 bg571333 hm13_571334; exact absurd hm13_571334 (Nat.not_lt_zero _)
    | succ n13_571334 ih13_571334 =>
      intro g571333 g571334 bg571333 hm13_571334
      have bg571334 := gB_any g571334
      refine G_iload_n 0 dr_cX17_colourCount_13 rfl ?_
      refine G_sipush 2000 dr_cX17_colourCount_14 (by decide +kernel) ?_
      refine G_icmp_ge 43 dr_cX17_colourCount_17 (by decide +kernel) (fun hc571336 => ?_) (fun hc571336 => ?_)
      · have r571337 : 2000 ≤ g571333.toInt := gj_leL hc571336 (show Int32.toInt 2000 = 2000 by decide)
        have bg571333' : gB g571333 2000 2000 := ⟨by omega, by omega⟩
        refine G_iload_n 1 dr_cX17_colourCount_43 rfl ?_
        exact G_iretA dr_cX17_colourCount_44 rfl (Nat.le_of_ble_eq_true rfl) (Nat.le_of_ble_eq_true rfl) ⟨F571159, g571334, rfl, rfl, hT571160, hs571162, (Nat.le_of_ble_eq_true rfl), (Nat.le_of_ble_eq_true rfl), kp571163⟩
      · have r571338 : g571333.toInt < 2000 := gj_nleL hc571336 (show Int32.toInt 2000 = 2000 by decide)
        have bg571333' : gB g571333 0 1999 := ⟨by omega, by omega⟩
        refine G_iload_n 1 dr_cX17_colourCount_20 rfl ?_
        refine G_aload_n 2 dr_cX17_colourCount_21 rfl ?_
        refine Gp_get 3 hm571101 he571164 dr_cX17_colourCount_22 (gk_X17 D I) (Nat.le_of_ble_eq_true rfl) wr_7_77 rfl ?_
        refine G_iload_n 0 dr_cX17_colourCount_25 rfl ?_
        have hm571339 : (γ 9 3) ∈ P571096 := RS_m hT571160 ht571125 (by decide)
        obtain ⟨f571341, he571340, bf571341⟩ := show rk_14 I (F571159 (γ 9 3)) from RS_o hT571160 ht571125
        refine Gp_zald 3 hm571339 he571340 dr_cX17_colourCount_26 rfl (gB_in bg571333' (by decide) (by decide)) (G_nam fun z571342 hz571342 => ?_)
        have bz571342 : gB z571342 0 1 := by rw [hz571342]; exact bf571341 _
        refine G_if_eq 34 dr_cX17_colourCount_27 (by decide +kernel) (fun hc571343 => ?_) (fun hc571343 => ?_)
        · have r571344 : z571342.toInt = 0 := gj_eq hc571343 (show Int32.toInt 0 = 0 by decide)
          have bz571342' : gB z571342 0 0 := gB_t0 r571344
          refine G_iconst 0 dr_cX17_colourCount_34 (by decide +kernel) ?_
          refine G_iadd dr_cX17_colourCount_35 (G_nam fun z571345 hz571345 => ?_)
          have ez571345 : z571345.toInt = g571334.toInt + 0 := by rw [gI_add hz571345 bg571334 (gBl (show Int32.toInt 0 = 0 by decide)) (by decide) (by decide), show Int32.toInt 0 = 0 from by decide]
          have bz571345 : gB z571345 (-2147483648) 2147483647 := gB_add (gI_add hz571345 bg571334 (gBl (show Int32.toInt 0 = 0 by decide)) (by decide) (by decide)) bg571334 (gBl (show Int32.toInt 0 = 0 by decide)) (by decide) (by decide)
          refine G_istore_n (L' := [(1, .int z571345), (2, .int g571333), (0, .ref q571098)]) dr_cX17_colourCount_36 (Nat.le_of_ble_eq_true rfl) rfl ?_
          obtain ⟨z571346, hz571346⟩ : ∃ z : Int32, z = g571333 + Int32.ofInt 1 := ⟨_, rfl⟩
          have ez571346 : z571346.toInt = g571333.toInt + 1 := gI_inc hz571346 (by decide) bg571333' (by decide) (by decide)
          have bz571346 : gB z571346 1 2000 := ⟨by omega, by omega⟩
          refine G_iinc (L' := [(2, .int z571346), (1, .int z571345), (0, .ref q571098)]) z571346 1 dr_cX17_colourCount_37 rfl hz571346.symm (Nat.le_of_ble_eq_true rfl) rfl ?_
          refine G_goto 13 dr_cX17_colourCount_40 (by decide +kernel) ?_
          exact ih13_571334 z571346 z571345 (gB_w bz571346 (by decide) (by decide)) (mz_up ez571346 (Int.le_trans bg571333'.2 (by decide)) hm13_571334)
        · have r571347 : z571342.toInt ≠ 0 := gj_neq hc571343 (show Int32.toInt 0 = 0 by decide)
          have bz571342' : gB z571342 1 1 := gB_t1 bz571342 r571347
          refine G_iconst 1 dr_cX17_colourCount_30 (by decide +kernel) ?_
          refine G_goto 35 dr_cX17_colourCount_31 (by decide +kernel) ?_
          refine G_iadd dr_cX17_colourCount_35 (G_nam fun z571348 hz571348 => ?_)
          have bz571348 : gB z571348 (-2147483648) 2147483647 := gB_any z571348
          refine G_istore_n (L' := [(1, .int z571348), (2, .int g571333), (0, .ref q571098)]) dr_cX17_colourCount_36 (Nat.le_of_ble_eq_true rfl) rfl ?_
          obtain ⟨z571349, hz571349⟩ : ∃ z : Int32, z = g571333 + Int32.ofInt 1 := ⟨_, rfl⟩
          have ez571349 : z571349.toInt = g571333.toInt + 1 := gI_inc hz571349 (by decide) bg571333' (by decide) (by decide)
          have bz571349 : gB z571349 1 2000 := ⟨by omega, by omega⟩
          refine G_iinc (L' := [(2, .int z571349), (1, .int z571348), (0, .ref q571098)]) z571349 1 dr_cX17_colourCount_37 rfl hz571349.symm (Nat.le_of_ble_eq_true rfl) rfl ?_
          refine G_goto 13 dr_cX17_colourCount_40 (by decide +kernel) ?_
          exact ih13_571334 z571349 z571348 (gB_w bz571349 (by decide) (by decide)) (mz_up ez571349 (Int.le_trans bg571333'.2 (by decide)) hm13_571334)
  exact hlp13_571334 (((2001 : Int) - 0).toNat + 1) 0 0 (gB_w (gBl (show Int32.toInt 0 = 0 by decide)) (by decide) (by decide)) (Nat.lt_succ_self _)
abbrev ky_570893_SpillForgeModel_count : gKey := (cX17_count_, 2, "SpillForgeModel", (some FieldType.int), [], "count", fun _ _ => True)
def pt_570893_SpillForgeModel_count (D : va_G) (I : FieldType → ClassId) (γ el : Nat → Nat → Nat) (P570887 : List Nat) (F570888 : Nat → va_E) (q570889 : Nat) (p570890 : Int32) : Option Value → va_W → Nat → Nat → Prop := fun r w dc ds => ∃ (F571558 : Nat → va_E) (o571557 : Int32), r = some (.int o571557) ∧ w = va_pl P570887 F571558 ∧ RS D I P570887 F571558 γ el ∧ rStr γ [] F570888 F571558 ∧ dc ≤ 0 ∧ ds ≤ 0 ∧ (fI (F571558 q570889) 9).toInt = (fI (F570888 q570889) 9).toInt ∧ (fI (F571558 q570889) 10).toInt = (fI (F570888 q570889) 10).toInt ∧ (fI (F571558 q570889) 32).toInt = (fI (F570888 q570889) 32).toInt
set_option maxRecDepth 100000 in
set_option maxHeartbeats 4000000 in
theorem ct_570893_SpillForgeModel_count (l : Launch) (hl0 : l.stackTraces = false) (D : va_G) (I : FieldType → ClassId) (γ el : Nat → Nat → Nat) (P570887 : List Nat) (F570888 : Nat → va_E) (q570889 : Nat) (p570890 : Int32) (hT : RS D I P570887 F570888 γ el) (htq570889 : rKd γ q570889 10) (x570891 : ((fI (F570888 q570889) 9).toInt = 0 ∨ 0 < γ 6 0)) (x570892 : ((fI (F570888 q570889) 10).toInt = 0 ∨ 0 < γ 6 1)) : CtA (gV D I) l yX17_count_ cX17_count_ 2 (some FieldType.int) 7 163 0 0 [.ref q570889, .int p570890] (va_pl P570887 F570888) (pt_570893_SpillForgeModel_count D I γ el P570887 F570888 q570889 p570890) gNA := by
  refine CtA_of hl0 (by decide) (Nat.le_of_ble_eq_true rfl) ?_
  have bp570890 := gB_any p570890
  have hm570894 : q570889 ∈ P570887 := RS_m hT htq570889 (by decide)
  refine rk10_e (show rk_10 γ (F570888 q570889) from RS_o hT htq570889) (fun q570896 q570897 p570898 p570899 p570900 p570901 p570902 p570903 p570904 p570905 p570906 p570907 p570908 p570909 p570910 p570911 p570912 he570895 hB570939 ht570913 ht570914 ht570915 ht570916 ht570917 ht570918 ht570919 ht570920 ht570921 ht570922 ht570923 ht570924 ht570925 ht570926 ht570927 ht570928 ht570929 ht570930 ht570931 ht570932 ht570933 ht570934 ht570935 ht570936 hB570940 => ?_)
  have ac570941 : (fI (F570888 q570889) 9).toInt = p570898.toInt := by rw [he570895]; rfl
  have bp570898 : gB p570898 0 1 := (hB570939.1)
  have ac570942 : (fI (F570888 q570889) 10).toInt = p570899.toInt := by rw [he570895]; rfl
  have bp570899 : gB p570899 0 1 := (hB570939.2.1)
  have ac570943 : (fI (F570888 q570889) 32).toInt = p570910.toInt := by rw [he570895]; rfl
  have bp570910 : gB p570910 0 8192 := (hB570939.2.2.2.2.2.2.2.1)
  have fq570944 : γ 6 (γ 1 (γ 9 6)) = γ 6 0 := by rw [show γ 1 (γ 9 6) = 0 from ht570934]
  have fq570945 : γ 6 (γ 1 (γ 9 7)) = γ 6 1 := by rw [show γ 1 (γ 9 7) = 1 from ht570935]
  have fq570946 : γ 6 (γ 1 (γ 9 8)) = γ 6 2 := by rw [show γ 1 (γ 9 8) = 2 from ht570936]
  have r570947 : p570912.toInt ≤ γ 12 q570897 := by have z := hB570940; unfold rM2 at z; exact z.2.2
  refine G_aload_n 0 dr_cX17_count__0 rfl ?_
  refine G_iconst 0 dr_cX17_count__1 (by decide +kernel) ?_
  refine Gp_put 30 hm570894 he570895 dr_cX17_count__2 (gk_X17 D I) (Nat.le_of_ble_eq_true rfl) wr_7_104 rfl rfl rfl (Nat.le_of_ble_eq_true rfl) (fun F570948 e570949 n570950 => ?_)
  have he570951 : F570948 q570889 = .inr (22, [.ref (γ 9 0), .ref (γ 9 1), .ref (γ 9 2), .ref (γ 9 3), .ref (γ 9 4), .ref (γ 9 5), .ref (γ 9 6), .ref (γ 9 7), .ref (γ 9 8), .int p570898, .int p570899, .int p570900, .int p570901, .int p570902, .int p570903, .ref (γ 9 15), .ref (γ 9 16), .ref (γ 9 17), .ref (γ 9 18), .ref (γ 9 19), .ref (γ 9 20), .ref (γ 9 21), .ref (γ 9 22), .int p570904, .int p570905, .int p570906, .int p570907, .int p570908, .ref q570896, .ref (γ 9 29), .int 0, .ref (γ 9 31), .int p570910, .int p570911, .int p570912, .ref q570897]) := e570949
  have hs570952 : rStr γ [] F570888 F570948 := rStr_put (rStr_rf (γ := γ) (W := []) (F := F570888)) n570950 htq570889 (by decide)
  refine G_iload_n 1 dr_cX17_count__5 rfl ?_
  by_cases hs570953 : p570890 = 0
  · have ehs570953 : p570890.toInt = 0 := gj_eq hs570953 (show Int32.toInt 0 = 0 by decide)
    have bp570890' : gB p570890 0 0 := ⟨by omega, by omega⟩
    refine G_eqi (y := 0) hs570953 ?_
    refine G_tableIn 68 dr_cX17_count__6 (by decide) (by decide) (by first | rfl | decide) (by decide) ?_
    refine G_aload_n 0 dr_cX17_count__68 rfl ?_
    refine Gp_get 9 hm570894 he570951 dr_cX17_count__69 (gk_X17 D I) (Nat.le_of_ble_eq_true rfl) wr_7_83 rfl ?_
    refine G_if_eq 85 dr_cX17_count__72 (by decide +kernel) (fun hc570954 => ?_) (fun hc570954 => ?_)
    · have r570955 : p570898.toInt = 0 := gj_eq hc570954 (show Int32.toInt 0 = 0 by decide)
      have bp570898' : gB p570898 0 0 := gB_t0 r570955
      refine G_iconst 0 dr_cX17_count__85 (by decide +kernel) ?_
      have hT570956 : RS D I P570887 F570948 γ el := RS_set hT n570950 htq570889 (by decide) ⟨q570896, q570897, p570898, p570899, p570900, p570901, p570902, p570903, p570904, p570905, p570906, p570907, p570908, 0, p570910, p570911, p570912, he570951, ⟨(gB_w bp570898' (by decide) (by decide)), bp570899, (hB570939.2.2.1), (hB570939.2.2.2.1), (hB570939.2.2.2.2.1), (hB570939.2.2.2.2.2.1), (hB570939.2.2.2.2.2.2.1), bp570910, (hB570939.2.2.2.2.2.2.2.2)⟩, ht570913, ht570914, ht570915, ht570916, ht570917, ht570918, ht570919, ht570920, ht570921, ht570922, ht570923, ht570924, ht570925, ht570926, ht570927, ht570928, ht570929, ht570930, ht570931, ht570932, ht570933, ht570934, ht570935, ht570936, hB570940⟩
      have ac570957 : (fI (F570948 q570889) 9).toInt = p570898.toInt := by rw [he570951]; rfl
      have ac570958 : (fI (F570948 q570889) 10).toInt = p570899.toInt := by rw [he570951]; rfl
      have ac570959 : (fI (F570948 q570889) 32).toInt = p570910.toInt := by rw [he570951]; rfl
      exact G_iretA dr_cX17_count__86 rfl (Nat.le_of_ble_eq_true rfl) (Nat.le_of_ble_eq_true rfl) ⟨F570948, 0, rfl, rfl, hT570956, hs570952, (Nat.le_of_ble_eq_true rfl), (Nat.le_of_ble_eq_true rfl), (by have qa0 : Int32.toInt 0 = 0 := (by decide); omega), (by have qa0 : Int32.toInt 0 = 0 := (by decide); omega), (by have qa0 : Int32.toInt 0 = 0 := (by decide); omega)⟩
    · have r570960 : p570898.toInt ≠ 0 := gj_neq hc570954 (show Int32.toInt 0 = 0 by decide)
      have bp570898' : gB p570898 1 1 := gB_t1 bp570898 r570960
      refine G_aload_n 0 dr_cX17_count__75 rfl ?_
      refine Gp_get 6 hm570894 he570951 dr_cX17_count__76 (gk_X17 D I) (Nat.le_of_ble_eq_true rfl) wr_7_80 rfl ?_
      have hT570961 : RS D I P570887 F570948 γ el := RS_set hT n570950 htq570889 (by decide) ⟨q570896, q570897, p570898, p570899, p570900, p570901, p570902, p570903, p570904, p570905, p570906, p570907, p570908, 0, p570910, p570911, p570912, he570951, ⟨(gB_w bp570898' (by decide) (by decide)), bp570899, (hB570939.2.2.1), (hB570939.2.2.2.1), (hB570939.2.2.2.2.1), (hB570939.2.2.2.2.2.1), (hB570939.2.2.2.2.2.2.1), bp570910, (hB570939.2.2.2.2.2.2.2.2)⟩, ht570913, ht570914, ht570915, ht570916, ht570917, ht570918, ht570919, ht570920, ht570921, ht570922, ht570923, ht570924, ht570925, ht570926, ht570927, ht570928, ht570929, ht570930, ht570931, ht570932, ht570933, ht570934, ht570935, ht570936, hB570940⟩
      have hm570962 : (γ 9 6) ∈ P570887 := RS_m hT570961 ht570921 (by decide)
      obtain ⟨q570964, q570965, p570966, p570967, he570963, ht570983, ht570968, ht570969, ht570970, ht570971, r570972, r570973, r570974, r570975, r570976, r570977, r570978, r570979, r570980, r570981, r570982⟩ := show rk_9 γ el (γ 9 6) (F570948 (γ 9 6)) from RS_o hT570961 ht570921
      have bp570966 : gB p570966 0 1000000 := ⟨by omega, by omega⟩
      have bp570967 : gB p570967 0 1000000 := ⟨by omega, by omega⟩
      refine Gw_callV (As := []) (gV_ok D I) (cp_12496_Code_size l hl0 D I P570887 F570948 (γ 9 6) q570964 q570965 p570966 p570967 hm570962 he570963) dr_cX17_count__79 ⟨wr_10_160, wr_1_15, wr_9_131, by decide, rfl, (Nat.le_of_ble_eq_true rfl), (Nat.le_of_ble_eq_true rfl)⟩ wr_9_129 wr_9_130 hm570962 he570963 rfl (show 0 + 0 ≤ 0 by first | omega | decide) (show 0 + 0 ≤ 0 by first | omega | decide) (Nat.le_of_ble_eq_true rfl) (fun r570987 w570988 dc570984 ds570985 hp570986 => ?_) (fun _ _ _ _ _ z => z.elim)
      obtain ⟨rfl, rfl, hdc, hds⟩ := hp570986
      change G _ _ _ _ _ _ _ (.int p570967 :: _) _ _ _
      refine G_widen (cs' := 0) (sl' := 0) (by omega) (by omega) ?_
      refine G_goto 86 dr_cX17_count__82 (by decide +kernel) ?_
      have ac570989 : (fI (F570948 q570889) 9).toInt = p570898.toInt := by rw [he570951]; rfl
      have ac570990 : (fI (F570948 q570889) 10).toInt = p570899.toInt := by rw [he570951]; rfl
      have ac570991 : (fI (F570948 q570889) 32).toInt = p570910.toInt := by rw [he570951]; rfl
      exact G_iretA dr_cX17_count__86 rfl (Nat.le_of_ble_eq_true rfl) (Nat.le_of_ble_eq_true rfl) ⟨F570948, p570967, rfl, rfl, hT570961, hs570952, (Nat.le_of_ble_eq_true rfl), (Nat.le_of_ble_eq_true rfl), (by omega), (by omega), (by omega)⟩
  by_cases hs570992 : p570890 = 1
  · have ehs570992 : p570890.toInt = 1 := gj_eq hs570992 (show Int32.toInt 1 = 1 by decide)
    have bp570890' : gB p570890 1 1 := ⟨by omega, by omega⟩
    refine G_eqi (y := 1) hs570992 ?_
    refine G_tableIn 87 dr_cX17_count__6 (by decide) (by decide) (by first | rfl | decide) (by decide) ?_
    refine G_aload_n 0 dr_cX17_count__87 rfl ?_
    refine Gp_get 9 hm570894 he570951 dr_cX17_count__88 (gk_X17 D I) (Nat.le_of_ble_eq_true rfl) wr_7_83 rfl ?_
    refine G_if_eq 104 dr_cX17_count__91 (by decide +kernel) (fun hc570993 => ?_) (fun hc570993 => ?_)
    · have r570994 : p570898.toInt = 0 := gj_eq hc570993 (show Int32.toInt 0 = 0 by decide)
      have bp570898' : gB p570898 0 0 := gB_t0 r570994
      refine G_iconst 0 dr_cX17_count__104 (by decide +kernel) ?_
      have hT570995 : RS D I P570887 F570948 γ el := RS_set hT n570950 htq570889 (by decide) ⟨q570896, q570897, p570898, p570899, p570900, p570901, p570902, p570903, p570904, p570905, p570906, p570907, p570908, 0, p570910, p570911, p570912, he570951, ⟨(gB_w bp570898' (by decide) (by decide)), bp570899, (hB570939.2.2.1), (hB570939.2.2.2.1), (hB570939.2.2.2.2.1), (hB570939.2.2.2.2.2.1), (hB570939.2.2.2.2.2.2.1), bp570910, (hB570939.2.2.2.2.2.2.2.2)⟩, ht570913, ht570914, ht570915, ht570916, ht570917, ht570918, ht570919, ht570920, ht570921, ht570922, ht570923, ht570924, ht570925, ht570926, ht570927, ht570928, ht570929, ht570930, ht570931, ht570932, ht570933, ht570934, ht570935, ht570936, hB570940⟩
      have ac570996 : (fI (F570948 q570889) 9).toInt = p570898.toInt := by rw [he570951]; rfl
      have ac570997 : (fI (F570948 q570889) 10).toInt = p570899.toInt := by rw [he570951]; rfl
      have ac570998 : (fI (F570948 q570889) 32).toInt = p570910.toInt := by rw [he570951]; rfl
      exact G_iretA dr_cX17_count__105 rfl (Nat.le_of_ble_eq_true rfl) (Nat.le_of_ble_eq_true rfl) ⟨F570948, 0, rfl, rfl, hT570995, hs570952, (Nat.le_of_ble_eq_true rfl), (Nat.le_of_ble_eq_true rfl), (by have qa0 : Int32.toInt 0 = 0 := (by decide); omega), (by have qa0 : Int32.toInt 0 = 0 := (by decide); omega), (by have qa0 : Int32.toInt 0 = 0 := (by decide); omega)⟩
    · have r570999 : p570898.toInt ≠ 0 := gj_neq hc570993 (show Int32.toInt 0 = 0 by decide)
      have bp570898' : gB p570898 1 1 := gB_t1 bp570898 r570999
      refine G_aload_n 0 dr_cX17_count__94 rfl ?_
      refine Gp_get 6 hm570894 he570951 dr_cX17_count__95 (gk_X17 D I) (Nat.le_of_ble_eq_true rfl) wr_7_80 rfl ?_
      have hT571000 : RS D I P570887 F570948 γ el := RS_set hT n570950 htq570889 (by decide) ⟨q570896, q570897, p570898, p570899, p570900, p570901, p570902, p570903, p570904, p570905, p570906, p570907, p570908, 0, p570910, p570911, p570912, he570951, ⟨(gB_w bp570898' (by decide) (by decide)), bp570899, (hB570939.2.2.1), (hB570939.2.2.2.1), (hB570939.2.2.2.2.1), (hB570939.2.2.2.2.2.1), (hB570939.2.2.2.2.2.2.1), bp570910, (hB570939.2.2.2.2.2.2.2.2)⟩, ht570913, ht570914, ht570915, ht570916, ht570917, ht570918, ht570919, ht570920, ht570921, ht570922, ht570923, ht570924, ht570925, ht570926, ht570927, ht570928, ht570929, ht570930, ht570931, ht570932, ht570933, ht570934, ht570935, ht570936, hB570940⟩
      have hm571006 : (γ 9 6) ∈ P570887 := RS_m hT571000 ht570921 (by decide)
      obtain ⟨q571008, q571009, p571010, p571011, he571007, ht571027, ht571012, ht571013, ht571014, ht571015, r571016, r571017, r571018, r571019, r571020, r571021, r571022, r571023, r571024, r571025, r571026⟩ := show rk_9 γ el (γ 9 6) (F570948 (γ 9 6)) from RS_o hT571000 ht570921
      have bp571010 : gB p571010 0 1000000 := ⟨by omega, by omega⟩
      have bp571011 : gB p571011 0 1000000 := ⟨by omega, by omega⟩
      refine Gw_callV (As := []) (gV_ok D I) (ct_7646_Code_countRows l hl0 D I γ el P570887 F570948 (γ 9 6) hT571000 ht570921 (by have qa0 : Int32.toInt 0 = 0 := (by decide); omega)) dr_cX17_count__98 ⟨wr_10_229, wr_1_15, wr_10_232, by decide, rfl, (Nat.le_of_ble_eq_true rfl), (Nat.le_of_ble_eq_true rfl)⟩ wr_10_230 wr_10_231 hm571006 he571007 rfl (show 0 + 0 ≤ 0 by first | omega | decide) (show 0 + 0 ≤ 0 by first | omega | decide) (Nat.le_of_ble_eq_true rfl) (fun r571004 w571005 dc571001 ds571002 hp571003 => ?_) (fun _ _ _ _ _ z => z.elim)
      obtain ⟨o571028, rfl, rfl, hdc, hds⟩ := hp571003
      have bo571028 := gB_any o571028
      change G _ _ _ _ _ _ _ (.int o571028 :: _) _ _ _
      refine G_widen (cs' := 0) (sl' := 0) (by omega) (by omega) ?_
      refine G_goto 105 dr_cX17_count__101 (by decide +kernel) ?_
      have ac571029 : (fI (F570948 q570889) 9).toInt = p570898.toInt := by rw [he570951]; rfl
      have ac571030 : (fI (F570948 q570889) 10).toInt = p570899.toInt := by rw [he570951]; rfl
      have ac571031 : (fI (F570948 q570889) 32).toInt = p570910.toInt := by rw [he570951]; rfl
      exact G_iretA dr_cX17_count__105 rfl (Nat.le_of_ble_eq_true rfl) (Nat.le_of_ble_eq_true rfl) ⟨F570948, o571028, rfl, rfl, hT571000, hs570952, (Nat.le_of_ble_eq_true rfl), (Nat.le_of_ble_eq_true rfl), (by omega), (by omega), (by omega)⟩
  by_cases hs571032 : p570890 = 2
  · have ehs571032 : p570890.toInt = 2 := gj_eq hs571032 (show Int32.toInt 2 = 2 by decide)
    have bp570890' : gB p570890 2 2 := ⟨by omega, by omega⟩
    refine G_eqi (y := 2) hs571032 ?_
    refine G_tableIn 106 dr_cX17_count__6 (by decide) (by decide) (by first | rfl | decide) (by decide) ?_
    refine G_aload_n 0 dr_cX17_count__106 rfl ?_
    refine Gp_get 33 hm570894 he570951 dr_cX17_count__107 (gk_X17 D I) (Nat.le_of_ble_eq_true rfl) wr_7_107 rfl ?_
    have bp570911 : gB p570911 (-2147483648) 2147483647 := (gB_any p570911)
    have hT571033 : RS D I P570887 F570948 γ el := RS_set hT n570950 htq570889 (by decide) ⟨q570896, q570897, p570898, p570899, p570900, p570901, p570902, p570903, p570904, p570905, p570906, p570907, p570908, 0, p570910, p570911, p570912, he570951, ⟨bp570898, bp570899, (hB570939.2.2.1), (hB570939.2.2.2.1), (hB570939.2.2.2.2.1), (hB570939.2.2.2.2.2.1), (hB570939.2.2.2.2.2.2.1), bp570910, (hB570939.2.2.2.2.2.2.2.2)⟩, ht570913, ht570914, ht570915, ht570916, ht570917, ht570918, ht570919, ht570920, ht570921, ht570922, ht570923, ht570924, ht570925, ht570926, ht570927, ht570928, ht570929, ht570930, ht570931, ht570932, ht570933, ht570934, ht570935, ht570936, hB570940⟩
    have ac571034 : (fI (F570948 q570889) 9).toInt = p570898.toInt := by rw [he570951]; rfl
    have ac571035 : (fI (F570948 q570889) 10).toInt = p570899.toInt := by rw [he570951]; rfl
    have ac571036 : (fI (F570948 q570889) 32).toInt = p570910.toInt := by rw [he570951]; rfl
    exact G_iretA dr_cX17_count__110 rfl (Nat.le_of_ble_eq_true rfl) (Nat.le_of_ble_eq_true rfl) ⟨F570948, p570911, rfl, rfl, hT571033, hs570952, (Nat.le_of_ble_eq_true rfl), (Nat.le_of_ble_eq_true rfl), (by omega), (by omega), (by omega)⟩
  by_cases hs571037 : p570890 = 3
  · have ehs571037 : p570890.toInt = 3 := gj_eq hs571037 (show Int32.toInt 3 = 3 by decide)
    have bp570890' : gB p570890 3 3 := ⟨by omega, by omega⟩
    refine G_eqi (y := 3) hs571037 ?_
    refine G_tableIn 111 dr_cX17_count__6 (by decide) (by decide) (by first | rfl | decide) (by decide) ?_
    refine G_aload_n 0 dr_cX17_count__111 rfl ?_
    refine Gp_get 32 hm570894 he570951 dr_cX17_count__112 (gk_X17 D I) (Nat.le_of_ble_eq_true rfl) wr_7_106 rfl ?_
    have hT571038 : RS D I P570887 F570948 γ el := RS_set hT n570950 htq570889 (by decide) ⟨q570896, q570897, p570898, p570899, p570900, p570901, p570902, p570903, p570904, p570905, p570906, p570907, p570908, 0, p570910, p570911, p570912, he570951, ⟨bp570898, bp570899, (hB570939.2.2.1), (hB570939.2.2.2.1), (hB570939.2.2.2.2.1), (hB570939.2.2.2.2.2.1), (hB570939.2.2.2.2.2.2.1), bp570910, (hB570939.2.2.2.2.2.2.2.2)⟩, ht570913, ht570914, ht570915, ht570916, ht570917, ht570918, ht570919, ht570920, ht570921, ht570922, ht570923, ht570924, ht570925, ht570926, ht570927, ht570928, ht570929, ht570930, ht570931, ht570932, ht570933, ht570934, ht570935, ht570936, hB570940⟩
    have ac571039 : (fI (F570948 q570889) 9).toInt = p570898.toInt := by rw [he570951]; rfl
    have ac571040 : (fI (F570948 q570889) 10).toInt = p570899.toInt := by rw [he570951]; rfl
    have ac571041 : (fI (F570948 q570889) 32).toInt = p570910.toInt := by rw [he570951]; rfl
    exact G_iretA dr_cX17_count__115 rfl (Nat.le_of_ble_eq_true rfl) (Nat.le_of_ble_eq_true rfl) ⟨F570948, p570910, rfl, rfl, hT571038, hs570952, (Nat.le_of_ble_eq_true rfl), (Nat.le_of_ble_eq_true rfl), (by omega), (by omega), (by omega)⟩
  by_cases hs571042 : p570890 = 4
  · have ehs571042 : p570890.toInt = 4 := gj_eq hs571042 (show Int32.toInt 4 = 4 by decide)
    have bp570890' : gB p570890 4 4 := ⟨by omega, by omega⟩
    refine G_eqi (y := 4) hs571042 ?_
    refine G_tableIn 116 dr_cX17_count__6 (by decide) (by decide) (by first | rfl | decide) (by decide) ?_
    refine G_aload_n 0 dr_cX17_count__116 rfl ?_
    refine Gp_get 34 hm570894 he570951 dr_cX17_count__117 (gk_X17 D I) (Nat.le_of_ble_eq_true rfl) wr_7_108 rfl ?_
    have bp570912 : gB p570912 0 16777216 := (hB570939.2.2.2.2.2.2.2.2)
    have hT571043 : RS D I P570887 F570948 γ el := RS_set hT n570950 htq570889 (by decide) ⟨q570896, q570897, p570898, p570899, p570900, p570901, p570902, p570903, p570904, p570905, p570906, p570907, p570908, 0, p570910, p570911, p570912, he570951, ⟨bp570898, bp570899, (hB570939.2.2.1), (hB570939.2.2.2.1), (hB570939.2.2.2.2.1), (hB570939.2.2.2.2.2.1), (hB570939.2.2.2.2.2.2.1), bp570910, bp570912⟩, ht570913, ht570914, ht570915, ht570916, ht570917, ht570918, ht570919, ht570920, ht570921, ht570922, ht570923, ht570924, ht570925, ht570926, ht570927, ht570928, ht570929, ht570930, ht570931, ht570932, ht570933, ht570934, ht570935, ht570936, hB570940⟩
    have ac571044 : (fI (F570948 q570889) 9).toInt = p570898.toInt := by rw [he570951]; rfl
    have ac571045 : (fI (F570948 q570889) 10).toInt = p570899.toInt := by rw [he570951]; rfl
    have ac571046 : (fI (F570948 q570889) 32).toInt = p570910.toInt := by rw [he570951]; rfl
    exact G_iretA dr_cX17_count__120 rfl (Nat.le_of_ble_eq_true rfl) (Nat.le_of_ble_eq_true rfl) ⟨F570948, p570912, rfl, rfl, hT571043, hs570952, (Nat.le_of_ble_eq_true rfl), (Nat.le_of_ble_eq_true rfl), (by omega), (by omega), (by omega)⟩
  by_cases hs571047 : p570890 = 5
  · have ehs571047 : p570890.toInt = 5 := gj_eq hs571047 (show Int32.toInt 5 = 5 by decide)
    have bp570890' : gB p570890 5 5 := ⟨by omega, by omega⟩
    refine G_eqi (y := 5) hs571047 ?_
    refine G_tableIn 121 dr_cX17_count__6 (by decide) (by decide) (by first | rfl | decide) (by decide) ?_
    refine G_aload_n 0 dr_cX17_count__121 rfl ?_
    refine Gp_get 10 hm570894 he570951 dr_cX17_count__122 (gk_X17 D I) (Nat.le_of_ble_eq_true rfl) wr_7_84 rfl ?_
    refine G_if_eq 138 dr_cX17_count__125 (by decide +kernel) (fun hc571048 => ?_) (fun hc571048 => ?_)
    · have r571049 : p570899.toInt = 0 := gj_eq hc571048 (show Int32.toInt 0 = 0 by decide)
      have bp570899' : gB p570899 0 0 := gB_t0 r571049
      refine G_iconst 0 dr_cX17_count__138 (by decide +kernel) ?_
      have hT571050 : RS D I P570887 F570948 γ el := RS_set hT n570950 htq570889 (by decide) ⟨q570896, q570897, p570898, p570899, p570900, p570901, p570902, p570903, p570904, p570905, p570906, p570907, p570908, 0, p570910, p570911, p570912, he570951, ⟨bp570898, (gB_w bp570899' (by decide) (by decide)), (hB570939.2.2.1), (hB570939.2.2.2.1), (hB570939.2.2.2.2.1), (hB570939.2.2.2.2.2.1), (hB570939.2.2.2.2.2.2.1), bp570910, (hB570939.2.2.2.2.2.2.2.2)⟩, ht570913, ht570914, ht570915, ht570916, ht570917, ht570918, ht570919, ht570920, ht570921, ht570922, ht570923, ht570924, ht570925, ht570926, ht570927, ht570928, ht570929, ht570930, ht570931, ht570932, ht570933, ht570934, ht570935, ht570936, hB570940⟩
      have ac571051 : (fI (F570948 q570889) 9).toInt = p570898.toInt := by rw [he570951]; rfl
      have ac571052 : (fI (F570948 q570889) 10).toInt = p570899.toInt := by rw [he570951]; rfl
      have ac571053 : (fI (F570948 q570889) 32).toInt = p570910.toInt := by rw [he570951]; rfl
      exact G_iretA dr_cX17_count__139 rfl (Nat.le_of_ble_eq_true rfl) (Nat.le_of_ble_eq_true rfl) ⟨F570948, 0, rfl, rfl, hT571050, hs570952, (Nat.le_of_ble_eq_true rfl), (Nat.le_of_ble_eq_true rfl), (by have qa0 : Int32.toInt 0 = 0 := (by decide); omega), (by have qa0 : Int32.toInt 0 = 0 := (by decide); omega), (by have qa0 : Int32.toInt 0 = 0 := (by decide); omega)⟩
    · have r571054 : p570899.toInt ≠ 0 := gj_neq hc571048 (show Int32.toInt 0 = 0 by decide)
      have bp570899' : gB p570899 1 1 := gB_t1 bp570899 r571054
      refine G_aload_n 0 dr_cX17_count__128 rfl ?_
      refine Gp_get 7 hm570894 he570951 dr_cX17_count__129 (gk_X17 D I) (Nat.le_of_ble_eq_true rfl) wr_7_81 rfl ?_
      have hT571055 : RS D I P570887 F570948 γ el := RS_set hT n570950 htq570889 (by decide) ⟨q570896, q570897, p570898, p570899, p570900, p570901, p570902, p570903, p570904, p570905, p570906, p570907, p570908, 0, p570910, p570911, p570912, he570951, ⟨bp570898, (gB_w bp570899' (by decide) (by decide)), (hB570939.2.2.1), (hB570939.2.2.2.1), (hB570939.2.2.2.2.1), (hB570939.2.2.2.2.2.1), (hB570939.2.2.2.2.2.2.1), bp570910, (hB570939.2.2.2.2.2.2.2.2)⟩, ht570913, ht570914, ht570915, ht570916, ht570917, ht570918, ht570919, ht570920, ht570921, ht570922, ht570923, ht570924, ht570925, ht570926, ht570927, ht570928, ht570929, ht570930, ht570931, ht570932, ht570933, ht570934, ht570935, ht570936, hB570940⟩
      have hm571061 : (γ 9 7) ∈ P570887 := RS_m hT571055 ht570922 (by decide)
      obtain ⟨q571063, q571064, p571065, p571066, he571062, ht571082, ht571067, ht571068, ht571069, ht571070, r571071, r571072, r571073, r571074, r571075, r571076, r571077, r571078, r571079, r571080, r571081⟩ := show rk_9 γ el (γ 9 7) (F570948 (γ 9 7)) from RS_o hT571055 ht570922
      have bp571065 : gB p571065 0 1000000 := ⟨by omega, by omega⟩
      have bp571066 : gB p571066 0 1000000 := ⟨by omega, by omega⟩
      refine Gw_callV (As := []) (gV_ok D I) (ct_7646_Code_countRows l hl0 D I γ el P570887 F570948 (γ 9 7) hT571055 ht570922 (by have qa0 : Int32.toInt 0 = 0 := (by decide); omega)) dr_cX17_count__132 ⟨wr_10_229, wr_1_15, wr_10_232, by decide, rfl, (Nat.le_of_ble_eq_true rfl), (Nat.le_of_ble_eq_true rfl)⟩ wr_10_230 wr_10_231 hm571061 he571062 rfl (show 0 + 0 ≤ 0 by first | omega | decide) (show 0 + 0 ≤ 0 by first | omega | decide) (Nat.le_of_ble_eq_true rfl) (fun r571059 w571060 dc571056 ds571057 hp571058 => ?_) (fun _ _ _ _ _ z => z.elim)
      obtain ⟨o571083, rfl, rfl, hdc, hds⟩ := hp571058
      have bo571083 := gB_any o571083
      change G _ _ _ _ _ _ _ (.int o571083 :: _) _ _ _
      refine G_widen (cs' := 0) (sl' := 0) (by omega) (by omega) ?_
      refine G_goto 139 dr_cX17_count__135 (by decide +kernel) ?_
      have ac571084 : (fI (F570948 q570889) 9).toInt = p570898.toInt := by rw [he570951]; rfl
      have ac571085 : (fI (F570948 q570889) 10).toInt = p570899.toInt := by rw [he570951]; rfl
      have ac571086 : (fI (F570948 q570889) 32).toInt = p570910.toInt := by rw [he570951]; rfl
      exact G_iretA dr_cX17_count__139 rfl (Nat.le_of_ble_eq_true rfl) (Nat.le_of_ble_eq_true rfl) ⟨F570948, o571083, rfl, rfl, hT571055, hs570952, (Nat.le_of_ble_eq_true rfl), (Nat.le_of_ble_eq_true rfl), (by omega), (by omega), (by omega)⟩
  by_cases hs571087 : p570890 = 6
  · have ehs571087 : p570890.toInt = 6 := gj_eq hs571087 (show Int32.toInt 6 = 6 by decide)
    have bp570890' : gB p570890 6 6 := ⟨by omega, by omega⟩
    refine G_eqi (y := 6) hs571087 ?_
    refine G_tableIn 140 dr_cX17_count__6 (by decide) (by decide) (by first | rfl | decide) (by decide) ?_
    refine G_aload_n 0 dr_cX17_count__140 rfl ?_
    refine Gp_get 10 hm570894 he570951 dr_cX17_count__141 (gk_X17 D I) (Nat.le_of_ble_eq_true rfl) wr_7_84 rfl ?_
    refine G_if_eq 154 dr_cX17_count__144 (by decide +kernel) (fun hc571088 => ?_) (fun hc571088 => ?_)
    · have r571089 : p570899.toInt = 0 := gj_eq hc571088 (show Int32.toInt 0 = 0 by decide)
      have bp570899' : gB p570899 0 0 := gB_t0 r571089
      refine G_iconst 0 dr_cX17_count__154 (by decide +kernel) ?_
      have hT571090 : RS D I P570887 F570948 γ el := RS_set hT n570950 htq570889 (by decide) ⟨q570896, q570897, p570898, p570899, p570900, p570901, p570902, p570903, p570904, p570905, p570906, p570907, p570908, 0, p570910, p570911, p570912, he570951, ⟨bp570898, (gB_w bp570899' (by decide) (by decide)), (hB570939.2.2.1), (hB570939.2.2.2.1), (hB570939.2.2.2.2.1), (hB570939.2.2.2.2.2.1), (hB570939.2.2.2.2.2.2.1), bp570910, (hB570939.2.2.2.2.2.2.2.2)⟩, ht570913, ht570914, ht570915, ht570916, ht570917, ht570918, ht570919, ht570920, ht570921, ht570922, ht570923, ht570924, ht570925, ht570926, ht570927, ht570928, ht570929, ht570930, ht570931, ht570932, ht570933, ht570934, ht570935, ht570936, hB570940⟩
      have ac571091 : (fI (F570948 q570889) 9).toInt = p570898.toInt := by rw [he570951]; rfl
      have ac571092 : (fI (F570948 q570889) 10).toInt = p570899.toInt := by rw [he570951]; rfl
      have ac571093 : (fI (F570948 q570889) 32).toInt = p570910.toInt := by rw [he570951]; rfl
      exact G_iretA dr_cX17_count__155 rfl (Nat.le_of_ble_eq_true rfl) (Nat.le_of_ble_eq_true rfl) ⟨F570948, 0, rfl, rfl, hT571090, hs570952, (Nat.le_of_ble_eq_true rfl), (Nat.le_of_ble_eq_true rfl), (by have qa0 : Int32.toInt 0 = 0 := (by decide); omega), (by have qa0 : Int32.toInt 0 = 0 := (by decide); omega), (by have qa0 : Int32.toInt 0 = 0 := (by decide); omega)⟩
    · have r571094 : p570899.toInt ≠ 0 := gj_neq hc571088 (show Int32.toInt 0 = 0 by decide)
      have bp570899' : gB p570899 1 1 := gB_t1 bp570899 r571094
      refine G_aload_n 0 dr_cX17_count__147 rfl ?_
      have hT571095 : RS D I P570887 F570948 γ el := RS_set hT n570950 htq570889 (by decide) ⟨q570896, q570897, p570898, p570899, p570900, p570901, p570902, p570903, p570904, p570905, p570906, p570907, p570908, 0, p570910, p570911, p570912, he570951, ⟨bp570898, (gB_w bp570899' (by decide) (by decide)), (hB570939.2.2.1), (hB570939.2.2.2.1), (hB570939.2.2.2.2.1), (hB570939.2.2.2.2.2.1), (hB570939.2.2.2.2.2.2.1), bp570910, (hB570939.2.2.2.2.2.2.2.2)⟩, ht570913, ht570914, ht570915, ht570916, ht570917, ht570918, ht570919, ht570920, ht570921, ht570922, ht570923, ht570924, ht570925, ht570926, ht570927, ht570928, ht570929, ht570930, ht570931, ht570932, ht570933, ht570934, ht570935, ht570936, hB570940⟩
      have ac571352 : (fI (F570948 q570889) 9).toInt = p570898.toInt := by rw [he570951]; rfl
      have ac571353 : (fI (F570948 q570889) 10).toInt = p570899.toInt := by rw [he570951]; rfl
      have ac571354 : (fI (F570948 q570889) 32).toInt = p570910.toInt := by rw [he570951]; rfl
      refine Gw_callV (As := []) (gV_ok D I) (ct_571100_SpillForgeModel_colourCount l hl0 D I γ el P570887 F570948 q570889 hT571095 htq570889 (by have qa0 : Int32.toInt 0 = 0 := (by decide); omega)) dr_cX17_count__148 ⟨wr_11_75, wr_1_14, wr_11_78, by decide, rfl, (Nat.le_of_ble_eq_true rfl), (Nat.le_of_ble_eq_true rfl)⟩ wr_11_77 wr_p_112 hm570894 he570951 rfl (show 0 + 0 ≤ 0 by first | omega | decide) (show 0 + 0 ≤ 0 by first | omega | decide) (Nat.le_of_ble_eq_true rfl) (fun r571358 w571359 dc571355 ds571356 hp571357 => ?_) (fun _ _ _ _ _ z => z.elim)
      obtain ⟨F571362, o571360, rfl, rfl, hT571363, hs571364, hdc, hds, x571361⟩ := hp571357
      have hs571365 : rStr γ [] F570888 F571362 := rStr_tr hs570952 hs571364
      have kp571366 : F571362 q570889 = F570948 q570889 := x571361
      have he571367 : F571362 q570889 = .inr (22, [.ref (γ 9 0), .ref (γ 9 1), .ref (γ 9 2), .ref (γ 9 3), .ref (γ 9 4), .ref (γ 9 5), .ref (γ 9 6), .ref (γ 9 7), .ref (γ 9 8), .int p570898, .int p570899, .int p570900, .int p570901, .int p570902, .int p570903, .ref (γ 9 15), .ref (γ 9 16), .ref (γ 9 17), .ref (γ 9 18), .ref (γ 9 19), .ref (γ 9 20), .ref (γ 9 21), .ref (γ 9 22), .int p570904, .int p570905, .int p570906, .int p570907, .int p570908, .ref q570896, .ref (γ 9 29), .int 0, .ref (γ 9 31), .int p570910, .int p570911, .int p570912, .ref q570897]) := (x571361).trans he570951
      have bo571360 := gB_any o571360
      change G _ _ _ _ _ _ _ (.int o571360 :: _) _ _ _
      refine G_widen (cs' := 0) (sl' := 0) (by omega) (by omega) ?_
      refine G_goto 155 dr_cX17_count__151 (by decide +kernel) ?_
      have ac571368 : (fI (F571362 q570889) 9).toInt = p570898.toInt := by rw [he571367]; rfl
      have ac571369 : (fI (F571362 q570889) 10).toInt = p570899.toInt := by rw [he571367]; rfl
      have ac571370 : (fI (F571362 q570889) 32).toInt = p570910.toInt := by rw [he571367]; rfl
      exact G_iretA dr_cX17_count__155 rfl (Nat.le_of_ble_eq_true rfl) (Nat.le_of_ble_eq_true rfl) ⟨F571362, o571360, rfl, rfl, hT571363, hs571365, (Nat.le_of_ble_eq_true rfl), (Nat.le_of_ble_eq_true rfl), (by omega), (by omega), (by omega)⟩
  by_cases hs571371 : p570890 = 7
  · have ehs571371 : p570890.toInt = 7 := gj_eq hs571371 (show Int32.toInt 7 = 7 by decide)
    have bp570890' : gB p570890 7 7 := ⟨by omega, by omega⟩
    refine G_eqi (y := 7) hs571371 ?_
    refine G_tableIn 156 dr_cX17_count__6 (by decide) (by decide) (by first | rfl | decide) (by decide) ?_
    refine G_aload_n 0 dr_cX17_count__156 rfl ?_
    refine Gp_get 10 hm570894 he570951 dr_cX17_count__157 (gk_X17 D I) (Nat.le_of_ble_eq_true rfl) wr_7_84 rfl ?_
    refine G_if_eq 170 dr_cX17_count__160 (by decide +kernel) (fun hc571372 => ?_) (fun hc571372 => ?_)
    · have r571373 : p570899.toInt = 0 := gj_eq hc571372 (show Int32.toInt 0 = 0 by decide)
      have bp570899' : gB p570899 0 0 := gB_t0 r571373
      refine G_iconst 0 dr_cX17_count__170 (by decide +kernel) ?_
      have hT571374 : RS D I P570887 F570948 γ el := RS_set hT n570950 htq570889 (by decide) ⟨q570896, q570897, p570898, p570899, p570900, p570901, p570902, p570903, p570904, p570905, p570906, p570907, p570908, 0, p570910, p570911, p570912, he570951, ⟨bp570898, (gB_w bp570899' (by decide) (by decide)), (hB570939.2.2.1), (hB570939.2.2.2.1), (hB570939.2.2.2.2.1), (hB570939.2.2.2.2.2.1), (hB570939.2.2.2.2.2.2.1), bp570910, (hB570939.2.2.2.2.2.2.2.2)⟩, ht570913, ht570914, ht570915, ht570916, ht570917, ht570918, ht570919, ht570920, ht570921, ht570922, ht570923, ht570924, ht570925, ht570926, ht570927, ht570928, ht570929, ht570930, ht570931, ht570932, ht570933, ht570934, ht570935, ht570936, hB570940⟩
      have ac571375 : (fI (F570948 q570889) 9).toInt = p570898.toInt := by rw [he570951]; rfl
      have ac571376 : (fI (F570948 q570889) 10).toInt = p570899.toInt := by rw [he570951]; rfl
      have ac571377 : (fI (F570948 q570889) 32).toInt = p570910.toInt := by rw [he570951]; rfl
      exact G_iretA dr_cX17_count__171 rfl (Nat.le_of_ble_eq_true rfl) (Nat.le_of_ble_eq_true rfl) ⟨F570948, 0, rfl, rfl, hT571374, hs570952, (Nat.le_of_ble_eq_true rfl), (Nat.le_of_ble_eq_true rfl), (by have qa0 : Int32.toInt 0 = 0 := (by decide); omega), (by have qa0 : Int32.toInt 0 = 0 := (by decide); omega), (by have qa0 : Int32.toInt 0 = 0 := (by decide); omega)⟩
    · have r571378 : p570899.toInt ≠ 0 := gj_neq hc571372 (show Int32.toInt 0 = 0 by decide)
      have bp570899' : gB p570899 1 1 := gB_t1 bp570899 r571378
      refine G_aload_n 0 dr_cX17_count__163 rfl ?_
      refine Gp_get 11 hm570894 he570951 dr_cX17_count__164 (gk_X17 D I) (Nat.le_of_ble_eq_true rfl) wr_7_85 rfl ?_
      have bp570900 : gB p570900 0 100 := (hB570939.2.2.1)
      refine G_goto 171 dr_cX17_count__167 (by decide +kernel) ?_
      have hT571379 : RS D I P570887 F570948 γ el := RS_set hT n570950 htq570889 (by decide) ⟨q570896, q570897, p570898, p570899, p570900, p570901, p570902, p570903, p570904, p570905, p570906, p570907, p570908, 0, p570910, p570911, p570912, he570951, ⟨bp570898, (gB_w bp570899' (by decide) (by decide)), bp570900, (hB570939.2.2.2.1), (hB570939.2.2.2.2.1), (hB570939.2.2.2.2.2.1), (hB570939.2.2.2.2.2.2.1), bp570910, (hB570939.2.2.2.2.2.2.2.2)⟩, ht570913, ht570914, ht570915, ht570916, ht570917, ht570918, ht570919, ht570920, ht570921, ht570922, ht570923, ht570924, ht570925, ht570926, ht570927, ht570928, ht570929, ht570930, ht570931, ht570932, ht570933, ht570934, ht570935, ht570936, hB570940⟩
      have ac571380 : (fI (F570948 q570889) 9).toInt = p570898.toInt := by rw [he570951]; rfl
      have ac571381 : (fI (F570948 q570889) 10).toInt = p570899.toInt := by rw [he570951]; rfl
      have ac571382 : (fI (F570948 q570889) 32).toInt = p570910.toInt := by rw [he570951]; rfl
      exact G_iretA dr_cX17_count__171 rfl (Nat.le_of_ble_eq_true rfl) (Nat.le_of_ble_eq_true rfl) ⟨F570948, p570900, rfl, rfl, hT571379, hs570952, (Nat.le_of_ble_eq_true rfl), (Nat.le_of_ble_eq_true rfl), (by omega), (by omega), (by omega)⟩
  by_cases hs571383 : p570890 = 8
  · have ehs571383 : p570890.toInt = 8 := gj_eq hs571383 (show Int32.toInt 8 = 8 by decide)
    have bp570890' : gB p570890 8 8 := ⟨by omega, by omega⟩
    refine G_eqi (y := 8) hs571383 ?_
    refine G_tableIn 172 dr_cX17_count__6 (by decide) (by decide) (by first | rfl | decide) (by decide) ?_
    refine G_aload_n 0 dr_cX17_count__172 rfl ?_
    refine Gp_get 10 hm570894 he570951 dr_cX17_count__173 (gk_X17 D I) (Nat.le_of_ble_eq_true rfl) wr_7_84 rfl ?_
    refine G_if_eq 186 dr_cX17_count__176 (by decide +kernel) (fun hc571384 => ?_) (fun hc571384 => ?_)
    · have r571385 : p570899.toInt = 0 := gj_eq hc571384 (show Int32.toInt 0 = 0 by decide)
      have bp570899' : gB p570899 0 0 := gB_t0 r571385
      refine G_iconst 0 dr_cX17_count__186 (by decide +kernel) ?_
      have hT571386 : RS D I P570887 F570948 γ el := RS_set hT n570950 htq570889 (by decide) ⟨q570896, q570897, p570898, p570899, p570900, p570901, p570902, p570903, p570904, p570905, p570906, p570907, p570908, 0, p570910, p570911, p570912, he570951, ⟨bp570898, (gB_w bp570899' (by decide) (by decide)), (hB570939.2.2.1), (hB570939.2.2.2.1), (hB570939.2.2.2.2.1), (hB570939.2.2.2.2.2.1), (hB570939.2.2.2.2.2.2.1), bp570910, (hB570939.2.2.2.2.2.2.2.2)⟩, ht570913, ht570914, ht570915, ht570916, ht570917, ht570918, ht570919, ht570920, ht570921, ht570922, ht570923, ht570924, ht570925, ht570926, ht570927, ht570928, ht570929, ht570930, ht570931, ht570932, ht570933, ht570934, ht570935, ht570936, hB570940⟩
      have ac571387 : (fI (F570948 q570889) 9).toInt = p570898.toInt := by rw [he570951]; rfl
      have ac571388 : (fI (F570948 q570889) 10).toInt = p570899.toInt := by rw [he570951]; rfl
      have ac571389 : (fI (F570948 q570889) 32).toInt = p570910.toInt := by rw [he570951]; rfl
      exact G_iretA dr_cX17_count__187 rfl (Nat.le_of_ble_eq_true rfl) (Nat.le_of_ble_eq_true rfl) ⟨F570948, 0, rfl, rfl, hT571386, hs570952, (Nat.le_of_ble_eq_true rfl), (Nat.le_of_ble_eq_true rfl), (by have qa0 : Int32.toInt 0 = 0 := (by decide); omega), (by have qa0 : Int32.toInt 0 = 0 := (by decide); omega), (by have qa0 : Int32.toInt 0 = 0 := (by decide); omega)⟩
    · have r571390 : p570899.toInt ≠ 0 := gj_neq hc571384 (show Int32.toInt 0 = 0 by decide)
      have bp570899' : gB p570899 1 1 := gB_t1 bp570899 r571390
      refine G_aload_n 0 dr_cX17_count__179 rfl ?_
      refine Gp_get 12 hm570894 he570951 dr_cX17_count__180 (gk_X17 D I) (Nat.le_of_ble_eq_true rfl) wr_7_86 rfl ?_
      have bp570901 : gB p570901 (-2147483648) 2147483647 := (gB_any p570901)
      refine G_goto 187 dr_cX17_count__183 (by decide +kernel) ?_
      have hT571391 : RS D I P570887 F570948 γ el := RS_set hT n570950 htq570889 (by decide) ⟨q570896, q570897, p570898, p570899, p570900, p570901, p570902, p570903, p570904, p570905, p570906, p570907, p570908, 0, p570910, p570911, p570912, he570951, ⟨bp570898, (gB_w bp570899' (by decide) (by decide)), (hB570939.2.2.1), (hB570939.2.2.2.1), (hB570939.2.2.2.2.1), (hB570939.2.2.2.2.2.1), (hB570939.2.2.2.2.2.2.1), bp570910, (hB570939.2.2.2.2.2.2.2.2)⟩, ht570913, ht570914, ht570915, ht570916, ht570917, ht570918, ht570919, ht570920, ht570921, ht570922, ht570923, ht570924, ht570925, ht570926, ht570927, ht570928, ht570929, ht570930, ht570931, ht570932, ht570933, ht570934, ht570935, ht570936, hB570940⟩
      have ac571392 : (fI (F570948 q570889) 9).toInt = p570898.toInt := by rw [he570951]; rfl
      have ac571393 : (fI (F570948 q570889) 10).toInt = p570899.toInt := by rw [he570951]; rfl
      have ac571394 : (fI (F570948 q570889) 32).toInt = p570910.toInt := by rw [he570951]; rfl
      exact G_iretA dr_cX17_count__187 rfl (Nat.le_of_ble_eq_true rfl) (Nat.le_of_ble_eq_true rfl) ⟨F570948, p570901, rfl, rfl, hT571391, hs570952, (Nat.le_of_ble_eq_true rfl), (Nat.le_of_ble_eq_true rfl), (by omega), (by omega), (by omega)⟩
  by_cases hs571395 : p570890 = 9
  · have ehs571395 : p570890.toInt = 9 := gj_eq hs571395 (show Int32.toInt 9 = 9 by decide)
    have bp570890' : gB p570890 9 9 := ⟨by omega, by omega⟩
    refine G_eqi (y := 9) hs571395 ?_
    refine G_tableIn 188 dr_cX17_count__6 (by decide) (by decide) (by first | rfl | decide) (by decide) ?_
    refine G_aload_n 0 dr_cX17_count__188 rfl ?_
    refine Gp_get 10 hm570894 he570951 dr_cX17_count__189 (gk_X17 D I) (Nat.le_of_ble_eq_true rfl) wr_7_84 rfl ?_
    refine G_if_eq 202 dr_cX17_count__192 (by decide +kernel) (fun hc571396 => ?_) (fun hc571396 => ?_)
    · have r571397 : p570899.toInt = 0 := gj_eq hc571396 (show Int32.toInt 0 = 0 by decide)
      have bp570899' : gB p570899 0 0 := gB_t0 r571397
      refine G_iconst 0 dr_cX17_count__202 (by decide +kernel) ?_
      have hT571398 : RS D I P570887 F570948 γ el := RS_set hT n570950 htq570889 (by decide) ⟨q570896, q570897, p570898, p570899, p570900, p570901, p570902, p570903, p570904, p570905, p570906, p570907, p570908, 0, p570910, p570911, p570912, he570951, ⟨bp570898, (gB_w bp570899' (by decide) (by decide)), (hB570939.2.2.1), (hB570939.2.2.2.1), (hB570939.2.2.2.2.1), (hB570939.2.2.2.2.2.1), (hB570939.2.2.2.2.2.2.1), bp570910, (hB570939.2.2.2.2.2.2.2.2)⟩, ht570913, ht570914, ht570915, ht570916, ht570917, ht570918, ht570919, ht570920, ht570921, ht570922, ht570923, ht570924, ht570925, ht570926, ht570927, ht570928, ht570929, ht570930, ht570931, ht570932, ht570933, ht570934, ht570935, ht570936, hB570940⟩
      have ac571399 : (fI (F570948 q570889) 9).toInt = p570898.toInt := by rw [he570951]; rfl
      have ac571400 : (fI (F570948 q570889) 10).toInt = p570899.toInt := by rw [he570951]; rfl
      have ac571401 : (fI (F570948 q570889) 32).toInt = p570910.toInt := by rw [he570951]; rfl
      exact G_iretA dr_cX17_count__203 rfl (Nat.le_of_ble_eq_true rfl) (Nat.le_of_ble_eq_true rfl) ⟨F570948, 0, rfl, rfl, hT571398, hs570952, (Nat.le_of_ble_eq_true rfl), (Nat.le_of_ble_eq_true rfl), (by have qa0 : Int32.toInt 0 = 0 := (by decide); omega), (by have qa0 : Int32.toInt 0 = 0 := (by decide); omega), (by have qa0 : Int32.toInt 0 = 0 := (by decide); omega)⟩
    · have r571402 : p570899.toInt ≠ 0 := gj_neq hc571396 (show Int32.toInt 0 = 0 by decide)
      have bp570899' : gB p570899 1 1 := gB_t1 bp570899 r571402
      refine G_aload_n 0 dr_cX17_count__195 rfl ?_
      refine Gp_get 13 hm570894 he570951 dr_cX17_count__196 (gk_X17 D I) (Nat.le_of_ble_eq_true rfl) wr_7_87 rfl ?_
      have bp570902 : gB p570902 (-2147483648) 2147483647 := (gB_any p570902)
      refine G_goto 203 dr_cX17_count__199 (by decide +kernel) ?_
      have hT571403 : RS D I P570887 F570948 γ el := RS_set hT n570950 htq570889 (by decide) ⟨q570896, q570897, p570898, p570899, p570900, p570901, p570902, p570903, p570904, p570905, p570906, p570907, p570908, 0, p570910, p570911, p570912, he570951, ⟨bp570898, (gB_w bp570899' (by decide) (by decide)), (hB570939.2.2.1), (hB570939.2.2.2.1), (hB570939.2.2.2.2.1), (hB570939.2.2.2.2.2.1), (hB570939.2.2.2.2.2.2.1), bp570910, (hB570939.2.2.2.2.2.2.2.2)⟩, ht570913, ht570914, ht570915, ht570916, ht570917, ht570918, ht570919, ht570920, ht570921, ht570922, ht570923, ht570924, ht570925, ht570926, ht570927, ht570928, ht570929, ht570930, ht570931, ht570932, ht570933, ht570934, ht570935, ht570936, hB570940⟩
      have ac571404 : (fI (F570948 q570889) 9).toInt = p570898.toInt := by rw [he570951]; rfl
      have ac571405 : (fI (F570948 q570889) 10).toInt = p570899.toInt := by rw [he570951]; rfl
      have ac571406 : (fI (F570948 q570889) 32).toInt = p570910.toInt := by rw [he570951]; rfl
      exact G_iretA dr_cX17_count__203 rfl (Nat.le_of_ble_eq_true rfl) (Nat.le_of_ble_eq_true rfl) ⟨F570948, p570902, rfl, rfl, hT571403, hs570952, (Nat.le_of_ble_eq_true rfl), (Nat.le_of_ble_eq_true rfl), (by omega), (by omega), (by omega)⟩
  by_cases hs571407 : p570890 = 10
  · have ehs571407 : p570890.toInt = 10 := gj_eq hs571407 (show Int32.toInt 10 = 10 by decide)
    have bp570890' : gB p570890 10 10 := ⟨by omega, by omega⟩
    refine G_eqi (y := 10) hs571407 ?_
    refine G_tableIn 204 dr_cX17_count__6 (by decide) (by decide) (by first | rfl | decide) (by decide) ?_
    refine G_aload_n 0 dr_cX17_count__204 rfl ?_
    refine Gp_get 10 hm570894 he570951 dr_cX17_count__205 (gk_X17 D I) (Nat.le_of_ble_eq_true rfl) wr_7_84 rfl ?_
    refine G_if_eq 223 dr_cX17_count__208 (by decide +kernel) (fun hc571408 => ?_) (fun hc571408 => ?_)
    · have r571409 : p570899.toInt = 0 := gj_eq hc571408 (show Int32.toInt 0 = 0 by decide)
      have bp570899' : gB p570899 0 0 := gB_t0 r571409
      refine G_iconst 0 dr_cX17_count__223 (by decide +kernel) ?_
      have hT571410 : RS D I P570887 F570948 γ el := RS_set hT n570950 htq570889 (by decide) ⟨q570896, q570897, p570898, p570899, p570900, p570901, p570902, p570903, p570904, p570905, p570906, p570907, p570908, 0, p570910, p570911, p570912, he570951, ⟨bp570898, (gB_w bp570899' (by decide) (by decide)), (hB570939.2.2.1), (hB570939.2.2.2.1), (hB570939.2.2.2.2.1), (hB570939.2.2.2.2.2.1), (hB570939.2.2.2.2.2.2.1), bp570910, (hB570939.2.2.2.2.2.2.2.2)⟩, ht570913, ht570914, ht570915, ht570916, ht570917, ht570918, ht570919, ht570920, ht570921, ht570922, ht570923, ht570924, ht570925, ht570926, ht570927, ht570928, ht570929, ht570930, ht570931, ht570932, ht570933, ht570934, ht570935, ht570936, hB570940⟩
      have ac571411 : (fI (F570948 q570889) 9).toInt = p570898.toInt := by rw [he570951]; rfl
      have ac571412 : (fI (F570948 q570889) 10).toInt = p570899.toInt := by rw [he570951]; rfl
      have ac571413 : (fI (F570948 q570889) 32).toInt = p570910.toInt := by rw [he570951]; rfl
      exact G_iretA dr_cX17_count__224 rfl (Nat.le_of_ble_eq_true rfl) (Nat.le_of_ble_eq_true rfl) ⟨F570948, 0, rfl, rfl, hT571410, hs570952, (Nat.le_of_ble_eq_true rfl), (Nat.le_of_ble_eq_true rfl), (by have qa0 : Int32.toInt 0 = 0 := (by decide); omega), (by have qa0 : Int32.toInt 0 = 0 := (by decide); omega), (by have qa0 : Int32.toInt 0 = 0 := (by decide); omega)⟩
    · have r571414 : p570899.toInt ≠ 0 := gj_neq hc571408 (show Int32.toInt 0 = 0 by decide)
      have bp570899' : gB p570899 1 1 := gB_t1 bp570899 r571414
      refine G_aload_n 0 dr_cX17_count__211 rfl ?_
      refine Gp_get 7 hm570894 he570951 dr_cX17_count__212 (gk_X17 D I) (Nat.le_of_ble_eq_true rfl) wr_7_81 rfl ?_
      refine G_bipush 21 dr_cX17_count__215 (by decide +kernel) ?_
      have hT571415 : RS D I P570887 F570948 γ el := RS_set hT n570950 htq570889 (by decide) ⟨q570896, q570897, p570898, p570899, p570900, p570901, p570902, p570903, p570904, p570905, p570906, p570907, p570908, 0, p570910, p570911, p570912, he570951, ⟨bp570898, (gB_w bp570899' (by decide) (by decide)), (hB570939.2.2.1), (hB570939.2.2.2.1), (hB570939.2.2.2.2.1), (hB570939.2.2.2.2.2.1), (hB570939.2.2.2.2.2.2.1), bp570910, (hB570939.2.2.2.2.2.2.2.2)⟩, ht570913, ht570914, ht570915, ht570916, ht570917, ht570918, ht570919, ht570920, ht570921, ht570922, ht570923, ht570924, ht570925, ht570926, ht570927, ht570928, ht570929, ht570930, ht570931, ht570932, ht570933, ht570934, ht570935, ht570936, hB570940⟩
      have hm571421 : (γ 9 7) ∈ P570887 := RS_m hT571415 ht570922 (by decide)
      obtain ⟨q571423, q571424, p571425, p571426, he571422, ht571442, ht571427, ht571428, ht571429, ht571430, r571431, r571432, r571433, r571434, r571435, r571436, r571437, r571438, r571439, r571440, r571441⟩ := show rk_9 γ el (γ 9 7) (F570948 (γ 9 7)) from RS_o hT571415 ht570922
      have bp571425 : gB p571425 0 1000000 := ⟨by omega, by omega⟩
      have bp571426 : gB p571426 0 1000000 := ⟨by omega, by omega⟩
      refine Gw_callV (As := [.int 21]) (gV_ok D I) (ct_8600_Code_count l hl0 D I γ el P570887 F570948 (γ 9 7) 21 hT571415 ht570922 (by have qa0 : Int32.toInt 0 = 0 := (by decide); omega)) dr_cX17_count__217 ⟨wr_11_79, wr_1_15, wr_11_82, by decide, rfl, (Nat.le_of_ble_eq_true rfl), (Nat.le_of_ble_eq_true rfl)⟩ wr_11_80 wr_11_81 hm571421 he571422 rfl (show 0 + 0 ≤ 0 by first | omega | decide) (show 0 + 0 ≤ 0 by first | omega | decide) (Nat.le_of_ble_eq_true rfl) (fun r571419 w571420 dc571416 ds571417 hp571418 => ?_) (fun _ _ _ _ _ z => z.elim)
      obtain ⟨o571443, rfl, rfl, hdc, hds⟩ := hp571418
      have bo571443 := gB_any o571443
      change G _ _ _ _ _ _ _ (.int o571443 :: _) _ _ _
      refine G_widen (cs' := 0) (sl' := 0) (by omega) (by omega) ?_
      refine G_goto 224 dr_cX17_count__220 (by decide +kernel) ?_
      have ac571444 : (fI (F570948 q570889) 9).toInt = p570898.toInt := by rw [he570951]; rfl
      have ac571445 : (fI (F570948 q570889) 10).toInt = p570899.toInt := by rw [he570951]; rfl
      have ac571446 : (fI (F570948 q570889) 32).toInt = p570910.toInt := by rw [he570951]; rfl
      exact G_iretA dr_cX17_count__224 rfl (Nat.le_of_ble_eq_true rfl) (Nat.le_of_ble_eq_true rfl) ⟨F570948, o571443, rfl, rfl, hT571415, hs570952, (Nat.le_of_ble_eq_true rfl), (Nat.le_of_ble_eq_true rfl), (by omega), (by omega), (by omega)⟩
  by_cases hs571447 : p570890 = 11
  · have ehs571447 : p570890.toInt = 11 := gj_eq hs571447 (show Int32.toInt 11 = 11 by decide)
    have bp570890' : gB p570890 11 11 := ⟨by omega, by omega⟩
    refine G_eqi (y := 11) hs571447 ?_
    refine G_tableIn 225 dr_cX17_count__6 (by decide) (by decide) (by first | rfl | decide) (by decide) ?_
    refine G_aload_n 0 dr_cX17_count__225 rfl ?_
    refine Gp_get 10 hm570894 he570951 dr_cX17_count__226 (gk_X17 D I) (Nat.le_of_ble_eq_true rfl) wr_7_84 rfl ?_
    refine G_if_eq 244 dr_cX17_count__229 (by decide +kernel) (fun hc571448 => ?_) (fun hc571448 => ?_)
    · have r571449 : p570899.toInt = 0 := gj_eq hc571448 (show Int32.toInt 0 = 0 by decide)
      have bp570899' : gB p570899 0 0 := gB_t0 r571449
      refine G_iconst 0 dr_cX17_count__244 (by decide +kernel) ?_
      have hT571450 : RS D I P570887 F570948 γ el := RS_set hT n570950 htq570889 (by decide) ⟨q570896, q570897, p570898, p570899, p570900, p570901, p570902, p570903, p570904, p570905, p570906, p570907, p570908, 0, p570910, p570911, p570912, he570951, ⟨bp570898, (gB_w bp570899' (by decide) (by decide)), (hB570939.2.2.1), (hB570939.2.2.2.1), (hB570939.2.2.2.2.1), (hB570939.2.2.2.2.2.1), (hB570939.2.2.2.2.2.2.1), bp570910, (hB570939.2.2.2.2.2.2.2.2)⟩, ht570913, ht570914, ht570915, ht570916, ht570917, ht570918, ht570919, ht570920, ht570921, ht570922, ht570923, ht570924, ht570925, ht570926, ht570927, ht570928, ht570929, ht570930, ht570931, ht570932, ht570933, ht570934, ht570935, ht570936, hB570940⟩
      have ac571451 : (fI (F570948 q570889) 9).toInt = p570898.toInt := by rw [he570951]; rfl
      have ac571452 : (fI (F570948 q570889) 10).toInt = p570899.toInt := by rw [he570951]; rfl
      have ac571453 : (fI (F570948 q570889) 32).toInt = p570910.toInt := by rw [he570951]; rfl
      exact G_iretA dr_cX17_count__245 rfl (Nat.le_of_ble_eq_true rfl) (Nat.le_of_ble_eq_true rfl) ⟨F570948, 0, rfl, rfl, hT571450, hs570952, (Nat.le_of_ble_eq_true rfl), (Nat.le_of_ble_eq_true rfl), (by have qa0 : Int32.toInt 0 = 0 := (by decide); omega), (by have qa0 : Int32.toInt 0 = 0 := (by decide); omega), (by have qa0 : Int32.toInt 0 = 0 := (by decide); omega)⟩
    · have r571454 : p570899.toInt ≠ 0 := gj_neq hc571448 (show Int32.toInt 0 = 0 by decide)
      have bp570899' : gB p570899 1 1 := gB_t1 bp570899 r571454
      refine G_aload_n 0 dr_cX17_count__232 rfl ?_
      refine Gp_get 7 hm570894 he570951 dr_cX17_count__233 (gk_X17 D I) (Nat.le_of_ble_eq_true rfl) wr_7_81 rfl ?_
      refine G_bipush 23 dr_cX17_count__236 (by decide +kernel) ?_
      have hT571455 : RS D I P570887 F570948 γ el := RS_set hT n570950 htq570889 (by decide) ⟨q570896, q570897, p570898, p570899, p570900, p570901, p570902, p570903, p570904, p570905, p570906, p570907, p570908, 0, p570910, p570911, p570912, he570951, ⟨bp570898, (gB_w bp570899' (by decide) (by decide)), (hB570939.2.2.1), (hB570939.2.2.2.1), (hB570939.2.2.2.2.1), (hB570939.2.2.2.2.2.1), (hB570939.2.2.2.2.2.2.1), bp570910, (hB570939.2.2.2.2.2.2.2.2)⟩, ht570913, ht570914, ht570915, ht570916, ht570917, ht570918, ht570919, ht570920, ht570921, ht570922, ht570923, ht570924, ht570925, ht570926, ht570927, ht570928, ht570929, ht570930, ht570931, ht570932, ht570933, ht570934, ht570935, ht570936, hB570940⟩
      have hm571461 : (γ 9 7) ∈ P570887 := RS_m hT571455 ht570922 (by decide)
      obtain ⟨q571463, q571464, p571465, p571466, he571462, ht571482, ht571467, ht571468, ht571469, ht571470, r571471, r571472, r571473, r571474, r571475, r571476, r571477, r571478, r571479, r571480, r571481⟩ := show rk_9 γ el (γ 9 7) (F570948 (γ 9 7)) from RS_o hT571455 ht570922
      have bp571465 : gB p571465 0 1000000 := ⟨by omega, by omega⟩
      have bp571466 : gB p571466 0 1000000 := ⟨by omega, by omega⟩
      refine Gw_callV (As := [.int 23]) (gV_ok D I) (ct_8600_Code_count l hl0 D I γ el P570887 F570948 (γ 9 7) 23 hT571455 ht570922 (by have qa0 : Int32.toInt 0 = 0 := (by decide); omega)) dr_cX17_count__238 ⟨wr_11_79, wr_1_15, wr_11_82, by decide, rfl, (Nat.le_of_ble_eq_true rfl), (Nat.le_of_ble_eq_true rfl)⟩ wr_11_80 wr_11_81 hm571461 he571462 rfl (show 0 + 0 ≤ 0 by first | omega | decide) (show 0 + 0 ≤ 0 by first | omega | decide) (Nat.le_of_ble_eq_true rfl) (fun r571459 w571460 dc571456 ds571457 hp571458 => ?_) (fun _ _ _ _ _ z => z.elim)
      obtain ⟨o571483, rfl, rfl, hdc, hds⟩ := hp571458
      have bo571483 := gB_any o571483
      change G _ _ _ _ _ _ _ (.int o571483 :: _) _ _ _
      refine G_widen (cs' := 0) (sl' := 0) (by omega) (by omega) ?_
      refine G_goto 245 dr_cX17_count__241 (by decide +kernel) ?_
      have ac571484 : (fI (F570948 q570889) 9).toInt = p570898.toInt := by rw [he570951]; rfl
      have ac571485 : (fI (F570948 q570889) 10).toInt = p570899.toInt := by rw [he570951]; rfl
      have ac571486 : (fI (F570948 q570889) 32).toInt = p570910.toInt := by rw [he570951]; rfl
      exact G_iretA dr_cX17_count__245 rfl (Nat.le_of_ble_eq_true rfl) (Nat.le_of_ble_eq_true rfl) ⟨F570948, o571483, rfl, rfl, hT571455, hs570952, (Nat.le_of_ble_eq_true rfl), (Nat.le_of_ble_eq_true rfl), (by omega), (by omega), (by omega)⟩
  have ehs570953 := lv_neT hs570953 (show Int32.toInt 0 = 0 by decide)
  have ehs570992 := lv_neT hs570992 (show Int32.toInt 1 = 1 by decide)
  have ehs571032 := lv_neT hs571032 (show Int32.toInt 2 = 2 by decide)
  have ehs571037 := lv_neT hs571037 (show Int32.toInt 3 = 3 by decide)
  have ehs571042 := lv_neT hs571042 (show Int32.toInt 4 = 4 by decide)
  have ehs571047 := lv_neT hs571047 (show Int32.toInt 5 = 5 by decide)
  have ehs571087 := lv_neT hs571087 (show Int32.toInt 6 = 6 by decide)
  have ehs571371 := lv_neT hs571371 (show Int32.toInt 7 = 7 by decide)
  have ehs571383 := lv_neT hs571383 (show Int32.toInt 8 = 8 by decide)
  have ehs571395 := lv_neT hs571395 (show Int32.toInt 9 = 9 by decide)
  have ehs571407 := lv_neT hs571407 (show Int32.toInt 10 = 10 by decide)
  have ehs571447 := lv_neT hs571447 (show Int32.toInt 11 = 11 by decide)
  refine G_tableOut 246 dr_cX17_count__6 (by omega) (by decide) ?_
  refine G_aload_n 0 dr_cX17_count__246 rfl ?_
  refine G_iconst 1 dr_cX17_count__247 (by decide +kernel) ?_
  have hT571487 : RS D I P570887 F570948 γ el := RS_set hT n570950 htq570889 (by decide) ⟨q570896, q570897, p570898, p570899, p570900, p570901, p570902, p570903, p570904, p570905, p570906, p570907, p570908, 0, p570910, p570911, p570912, he570951, ⟨bp570898, bp570899, (hB570939.2.2.1), (hB570939.2.2.2.1), (hB570939.2.2.2.2.1), (hB570939.2.2.2.2.2.1), (hB570939.2.2.2.2.2.2.1), bp570910, (hB570939.2.2.2.2.2.2.2.2)⟩, ht570913, ht570914, ht570915, ht570916, ht570917, ht570918, ht570919, ht570920, ht570921, ht570922, ht570923, ht570924, ht570925, ht570926, ht570927, ht570928, ht570929, ht570930, ht570931, ht570932, ht570933, ht570934, ht570935, ht570936, hB570940⟩
  have ac571488 : (fI (F570948 q570889) 9).toInt = p570898.toInt := by rw [he570951]; rfl
  have ac571489 : (fI (F570948 q570889) 10).toInt = p570899.toInt := by rw [he570951]; rfl
  have ac571490 : (fI (F570948 q570889) 32).toInt = p570910.toInt := by rw [he570951]; rfl
  refine Gw_callV (As := [.int 1]) (gV_ok D I) (ct_563559_SpillForgeModel_no l hl0 D I γ el P570887 F570948 q570889 1 hT571487 htq570889) dr_cX17_count__248 ⟨wr_7_191, wr_1_14, wr_7_194, by decide, rfl, (Nat.le_of_ble_eq_true rfl), (Nat.le_of_ble_eq_true rfl)⟩ wr_7_193 wr_p_73 hm570894 he570951 rfl (show 0 + 0 ≤ 0 by first | omega | decide) (show 0 + 0 ≤ 0 by first | omega | decide) (Nat.le_of_ble_eq_true rfl) (fun r571494 w571495 dc571491 ds571492 hp571493 => ?_) (fun _ _ _ _ _ z => z.elim)
  obtain ⟨F571500, rfl, rfl, hT571501, hs571502, hdc, hds, x571496, x571497, x571498, x571499⟩ := hp571493
  have hs571503 : rStr γ [] F570888 F571500 := rStr_tr hs570952 hs571502
  rw [show Int32.toInt 1 = 1 from by decide] at x571499
  change G _ _ _ _ _ _ _ (.int 0 :: _) _ _ _
  refine G_widen (cs' := 0) (sl' := 0) (by omega) (by omega) ?_
  have hm571504 : q570889 ∈ P570887 := RS_m hT571501 htq570889 (by decide)
  refine rk10_e (show rk_10 γ (F571500 q570889) from RS_o hT571501 htq570889) (fun q571506 q571507 p571508 p571509 p571510 p571511 p571512 p571513 p571514 p571515 p571516 p571517 p571518 p571519 p571520 p571521 p571522 he571505 hB571549 ht571523 ht571524 ht571525 ht571526 ht571527 ht571528 ht571529 ht571530 ht571531 ht571532 ht571533 ht571534 ht571535 ht571536 ht571537 ht571538 ht571539 ht571540 ht571541 ht571542 ht571543 ht571544 ht571545 ht571546 hB571550 => ?_)
  have ac571551 : (fI (F571500 q570889) 9).toInt = p571508.toInt := by rw [he571505]; rfl
  have bp571508 : gB p571508 0 1 := (hB571549.1)
  have ac571552 : (fI (F571500 q570889) 10).toInt = p571509.toInt := by rw [he571505]; rfl
  have bp571509 : gB p571509 0 1 := (hB571549.2.1)
  have ac571553 : (fI (F571500 q570889) 32).toInt = p571520.toInt := by rw [he571505]; rfl
  have bp571520 : gB p571520 0 8192 := (hB571549.2.2.2.2.2.2.2.1)
  have ac571554 : (fI (F571500 q570889) 9).toInt = p571508.toInt := by rw [he571505]; rfl
  have ac571555 : (fI (F571500 q570889) 10).toInt = p571509.toInt := by rw [he571505]; rfl
  have ac571556 : (fI (F571500 q570889) 32).toInt = p571520.toInt := by rw [he571505]; rfl
  exact G_iretA dr_cX17_count__251 rfl (Nat.le_of_ble_eq_true rfl) (Nat.le_of_ble_eq_true rfl) ⟨F571500, 0, rfl, rfl, hT571501, hs571503, (Nat.le_of_ble_eq_true rfl), (Nat.le_of_ble_eq_true rfl), (by have qa0 : Int32.toInt 0 = 0 := (by decide); omega), (by have qa0 : Int32.toInt 0 = 0 := (by decide); omega), (by have qa0 : Int32.toInt 0 = 0 := (by decide); omega)⟩
