theorem dr_cX17_colourCount_0 : decode cX17_colourCount 0 = .ok (.iconst 0, 1) := by decide +kernel
theorem dr_cX17_colourCount_1 : decode cX17_colourCount 1 = .ok (.istore_n 1, 1) := by decide +kernel
theorem dr_cX17_colourCount_2 : decode cX17_colourCount 2 = .ok (.aload_n 0, 1) := by decide +kernel
theorem dr_cX17_colourCount_3 : decode cX17_colourCount 3 = .ok (.aload_n 0, 1) := by decide +kernel
theorem dr_cX17_colourCount_4 : decode cX17_colourCount 4 = .ok (.getfield 365, 3) := by decide +kernel
theorem dr_cX17_colourCount_7 : decode cX17_colourCount 7 = .ok (.iconst 0, 1) := by decide +kernel
theorem dr_cX17_colourCount_8 : decode cX17_colourCount 8 = .ok (.invokevirtual 243, 3) := by decide +kernel
theorem dr_cX17_colourCount_11 : decode cX17_colourCount 11 = .ok (.iconst 0, 1) := by decide +kernel
theorem dr_cX17_colourCount_12 : decode cX17_colourCount 12 = .ok (.istore_n 2, 1) := by decide +kernel
theorem dr_cX17_colourCount_13 : decode cX17_colourCount 13 = .ok (.iload_n 2, 1) := by decide +kernel
theorem dr_cX17_colourCount_14 : decode cX17_colourCount 14 = .ok (.sipush 2000, 3) := by decide +kernel
theorem dr_cX17_colourCount_17 : decode cX17_colourCount 17 = .ok (.if_icmp .ge 26, 3) := by decide +kernel
theorem dr_cX17_colourCount_43 : decode cX17_colourCount 43 = .ok (.iload_n 1, 1) := by decide +kernel
theorem dr_cX17_colourCount_44 : decode cX17_colourCount 44 = .ok (.ireturn, 1) := by decide +kernel
theorem dr_cX17_colourCount_20 : decode cX17_colourCount 20 = .ok (.iload_n 1, 1) := by decide +kernel
theorem dr_cX17_colourCount_21 : decode cX17_colourCount 21 = .ok (.aload_n 0, 1) := by decide +kernel
theorem dr_cX17_colourCount_22 : decode cX17_colourCount 22 = .ok (.getfield 131, 3) := by decide +kernel
theorem dr_cX17_colourCount_25 : decode cX17_colourCount 25 = .ok (.iload_n 2, 1) := by decide +kernel
theorem dr_cX17_colourCount_26 : decode cX17_colourCount 26 = .ok (.baload, 1) := by decide +kernel
theorem dr_cX17_colourCount_27 : decode cX17_colourCount 27 = .ok (.ifCond .eq 7, 3) := by decide +kernel
theorem dr_cX17_colourCount_34 : decode cX17_colourCount 34 = .ok (.iconst 0, 1) := by decide +kernel
theorem dr_cX17_colourCount_35 : decode cX17_colourCount 35 = .ok (.iadd, 1) := by decide +kernel
theorem dr_cX17_colourCount_36 : decode cX17_colourCount 36 = .ok (.istore_n 1, 1) := by decide +kernel
theorem dr_cX17_colourCount_37 : decode cX17_colourCount 37 = .ok (.iinc 2 1, 3) := by decide +kernel
theorem dr_cX17_colourCount_40 : decode cX17_colourCount 40 = .ok (.goto (-27), 3) := by decide +kernel
theorem dr_cX17_colourCount_30 : decode cX17_colourCount 30 = .ok (.iconst 1, 1) := by decide +kernel
theorem dr_cX17_colourCount_31 : decode cX17_colourCount 31 = .ok (.goto 4, 3) := by decide +kernel
theorem dr_cX17_count__0 : decode cX17_count_ 0 = .ok (.aload_n 0, 1) := by decide +kernel
theorem dr_cX17_count__1 : decode cX17_count_ 1 = .ok (.iconst 0, 1) := by decide +kernel
theorem dr_cX17_count__2 : decode cX17_count_ 2 = .ok (.putfield 380, 3) := by decide +kernel
theorem dr_cX17_count__5 : decode cX17_count_ 5 = .ok (.iload_n 1, 1) := by decide +kernel
theorem dr_cX17_count__6 : decode cX17_count_ 6 = .ok (.tableswitch 240 0 11 #[62, 81, 100, 105, 110, 115, 134, 150, 166, 182, 198, 219], 62) := by decide +kernel
theorem dr_cX17_count__68 : decode cX17_count_ 68 = .ok (.aload_n 0, 1) := by decide +kernel
theorem dr_cX17_count__69 : decode cX17_count_ 69 = .ok (.getfield 414, 3) := by decide +kernel
theorem dr_cX17_count__72 : decode cX17_count_ 72 = .ok (.ifCond .eq 13, 3) := by decide +kernel
theorem dr_cX17_count__85 : decode cX17_count_ 85 = .ok (.iconst 0, 1) := by decide +kernel
theorem dr_cX17_count__86 : decode cX17_count_ 86 = .ok (.ireturn, 1) := by decide +kernel
theorem dr_cX17_count__75 : decode cX17_count_ 75 = .ok (.aload_n 0, 1) := by decide +kernel
theorem dr_cX17_count__76 : decode cX17_count_ 76 = .ok (.getfield 361, 3) := by decide +kernel
theorem dr_cX17_count__79 : decode cX17_count_ 79 = .ok (.invokevirtual 96, 3) := by decide +kernel
theorem dr_cX17_count__82 : decode cX17_count_ 82 = .ok (.goto 4, 3) := by decide +kernel
theorem dr_cX17_count__87 : decode cX17_count_ 87 = .ok (.aload_n 0, 1) := by decide +kernel
theorem dr_cX17_count__88 : decode cX17_count_ 88 = .ok (.getfield 414, 3) := by decide +kernel
theorem dr_cX17_count__91 : decode cX17_count_ 91 = .ok (.ifCond .eq 13, 3) := by decide +kernel
theorem dr_cX17_count__104 : decode cX17_count_ 104 = .ok (.iconst 0, 1) := by decide +kernel
theorem dr_cX17_count__105 : decode cX17_count_ 105 = .ok (.ireturn, 1) := by decide +kernel
theorem dr_cX17_count__94 : decode cX17_count_ 94 = .ok (.aload_n 0, 1) := by decide +kernel
theorem dr_cX17_count__95 : decode cX17_count_ 95 = .ok (.getfield 361, 3) := by decide +kernel
theorem dr_cX17_count__98 : decode cX17_count_ 98 = .ok (.invokevirtual 234, 3) := by decide +kernel
theorem wr_10_229 : (Jvm.Cond.methodLink "SpillForgeModel" (234 : Nat) ({ cls := "SpillForgeModel$Code", name := "countRows", desc := "()I" } : Jvm.MethodName)) ∈ gw := gw_10 229 rfl rfl
theorem wr_10_232 : (Jvm.Cond.code ({ cls := "SpillForgeModel$Code", name := "countRows", desc := "()I" } : Jvm.MethodName) prog_16_method_7_code (3 : Nat) (Option.some Jvm.ClassFile.FieldType.int)) ∈ gw := gw_10 232 rfl rfl
theorem wr_10_230 : (Jvm.Cond.instanceMethod ({ cls := "SpillForgeModel$Code", name := "countRows", desc := "()I" } : Jvm.MethodName)) ∈ gw := gw_10 230 rfl rfl
theorem wr_10_231 : (Jvm.Cond.selects "SpillForgeModel$Code" ({ cls := "SpillForgeModel$Code", name := "countRows", desc := "()I" } : Jvm.MethodName) ({ cls := "SpillForgeModel$Code", name := "countRows", desc := "()I" } : Jvm.MethodName)) ∈ gw := gw_10 231 rfl rfl
theorem dr_cX17_count__101 : decode cX17_count_ 101 = .ok (.goto 4, 3) := by decide +kernel
theorem dr_cX17_count__106 : decode cX17_count_ 106 = .ok (.aload_n 0, 1) := by decide +kernel
theorem dr_cX17_count__107 : decode cX17_count_ 107 = .ok (.getfield 392, 3) := by decide +kernel
theorem wr_7_107 : (Jvm.Cond.fieldLink "SpillForgeModel" (392 : Nat) "SpillForgeModel" "reason" "I") ∈ gw := gw_7 107 rfl rfl
theorem dr_cX17_count__110 : decode cX17_count_ 110 = .ok (.ireturn, 1) := by decide +kernel
theorem dr_cX17_count__111 : decode cX17_count_ 111 = .ok (.aload_n 0, 1) := by decide +kernel
theorem dr_cX17_count__112 : decode cX17_count_ 112 = .ok (.getfield 383, 3) := by decide +kernel
theorem dr_cX17_count__115 : decode cX17_count_ 115 = .ok (.ireturn, 1) := by decide +kernel
theorem dr_cX17_count__116 : decode cX17_count_ 116 = .ok (.aload_n 0, 1) := by decide +kernel
theorem dr_cX17_count__117 : decode cX17_count_ 117 = .ok (.getfield 426, 3) := by decide +kernel
theorem wr_7_108 : (Jvm.Cond.fieldLink "SpillForgeModel" (426 : Nat) "SpillForgeModel" "results" "I") ∈ gw := gw_7 108 rfl rfl
theorem dr_cX17_count__120 : decode cX17_count_ 120 = .ok (.ireturn, 1) := by decide +kernel
theorem dr_cX17_count__121 : decode cX17_count_ 121 = .ok (.aload_n 0, 1) := by decide +kernel
theorem dr_cX17_count__122 : decode cX17_count_ 122 = .ok (.getfield 416, 3) := by decide +kernel
theorem dr_cX17_count__125 : decode cX17_count_ 125 = .ok (.ifCond .eq 13, 3) := by decide +kernel
theorem dr_cX17_count__138 : decode cX17_count_ 138 = .ok (.iconst 0, 1) := by decide +kernel
theorem dr_cX17_count__139 : decode cX17_count_ 139 = .ok (.ireturn, 1) := by decide +kernel
theorem dr_cX17_count__128 : decode cX17_count_ 128 = .ok (.aload_n 0, 1) := by decide +kernel
theorem dr_cX17_count__129 : decode cX17_count_ 129 = .ok (.getfield 365, 3) := by decide +kernel
theorem dr_cX17_count__132 : decode cX17_count_ 132 = .ok (.invokevirtual 234, 3) := by decide +kernel
theorem dr_cX17_count__135 : decode cX17_count_ 135 = .ok (.goto 4, 3) := by decide +kernel
theorem dr_cX17_count__140 : decode cX17_count_ 140 = .ok (.aload_n 0, 1) := by decide +kernel
theorem dr_cX17_count__141 : decode cX17_count_ 141 = .ok (.getfield 416, 3) := by decide +kernel
theorem dr_cX17_count__144 : decode cX17_count_ 144 = .ok (.ifCond .eq 10, 3) := by decide +kernel
theorem dr_cX17_count__154 : decode cX17_count_ 154 = .ok (.iconst 0, 1) := by decide +kernel
theorem dr_cX17_count__155 : decode cX17_count_ 155 = .ok (.ireturn, 1) := by decide +kernel
theorem dr_cX17_count__147 : decode cX17_count_ 147 = .ok (.aload_n 0, 1) := by decide +kernel
theorem dr_cX17_count__148 : decode cX17_count_ 148 = .ok (.invokevirtual 429, 3) := by decide +kernel
theorem wr_11_75 : (Jvm.Cond.methodLink "SpillForgeModel" (429 : Nat) ({ cls := "SpillForgeModel", name := "colourCount", desc := "()I" } : Jvm.MethodName)) ∈ gw := gw_11 75 rfl rfl
theorem wr_11_78 : (Jvm.Cond.code ({ cls := "SpillForgeModel", name := "colourCount", desc := "()I" } : Jvm.MethodName) prog_14_method_44_code (3 : Nat) (Option.some Jvm.ClassFile.FieldType.int)) ∈ gw := gw_11 78 rfl rfl
theorem wr_11_77 : (Jvm.Cond.instanceMethod ({ cls := "SpillForgeModel", name := "colourCount", desc := "()I" } : Jvm.MethodName)) ∈ gw := gw_11 77 rfl rfl
theorem wr_p_112 : Cond.selects "SpillForgeModel" ⟨"SpillForgeModel", "colourCount", "()I"⟩ ⟨"SpillForgeModel", "colourCount", "()I"⟩ ∈ gw := gw_p _ 112 rfl rfl rfl
theorem dr_cX17_count__151 : decode cX17_count_ 151 = .ok (.goto 4, 3) := by decide +kernel
theorem dr_cX17_count__156 : decode cX17_count_ 156 = .ok (.aload_n 0, 1) := by decide +kernel
theorem dr_cX17_count__157 : decode cX17_count_ 157 = .ok (.getfield 416, 3) := by decide +kernel
theorem dr_cX17_count__160 : decode cX17_count_ 160 = .ok (.ifCond .eq 10, 3) := by decide +kernel
theorem dr_cX17_count__170 : decode cX17_count_ 170 = .ok (.iconst 0, 1) := by decide +kernel
theorem dr_cX17_count__171 : decode cX17_count_ 171 = .ok (.ireturn, 1) := by decide +kernel
theorem dr_cX17_count__163 : decode cX17_count_ 163 = .ok (.aload_n 0, 1) := by decide +kernel
theorem dr_cX17_count__164 : decode cX17_count_ 164 = .ok (.getfield 224, 3) := by decide +kernel
theorem dr_cX17_count__167 : decode cX17_count_ 167 = .ok (.goto 4, 3) := by decide +kernel
theorem dr_cX17_count__172 : decode cX17_count_ 172 = .ok (.aload_n 0, 1) := by decide +kernel
theorem dr_cX17_count__173 : decode cX17_count_ 173 = .ok (.getfield 416, 3) := by decide +kernel
theorem dr_cX17_count__176 : decode cX17_count_ 176 = .ok (.ifCond .eq 10, 3) := by decide +kernel
theorem dr_cX17_count__186 : decode cX17_count_ 186 = .ok (.iconst 0, 1) := by decide +kernel
theorem dr_cX17_count__187 : decode cX17_count_ 187 = .ok (.ireturn, 1) := by decide +kernel
theorem dr_cX17_count__179 : decode cX17_count_ 179 = .ok (.aload_n 0, 1) := by decide +kernel
theorem dr_cX17_count__180 : decode cX17_count_ 180 = .ok (.getfield 237, 3) := by decide +kernel
theorem wr_7_86 : (Jvm.Cond.fieldLink "SpillForgeModel" (237 : Nat) "SpillForgeModel" "spilled" "I") ∈ gw := gw_7 86 rfl rfl
theorem dr_cX17_count__183 : decode cX17_count_ 183 = .ok (.goto 4, 3) := by decide +kernel
theorem dr_cX17_count__188 : decode cX17_count_ 188 = .ok (.aload_n 0, 1) := by decide +kernel
theorem dr_cX17_count__189 : decode cX17_count_ 189 = .ok (.getfield 416, 3) := by decide +kernel
theorem dr_cX17_count__192 : decode cX17_count_ 192 = .ok (.ifCond .eq 10, 3) := by decide +kernel
theorem dr_cX17_count__202 : decode cX17_count_ 202 = .ok (.iconst 0, 1) := by decide +kernel
theorem dr_cX17_count__203 : decode cX17_count_ 203 = .ok (.ireturn, 1) := by decide +kernel
theorem dr_cX17_count__195 : decode cX17_count_ 195 = .ok (.aload_n 0, 1) := by decide +kernel
theorem dr_cX17_count__196 : decode cX17_count_ 196 = .ok (.getfield 195, 3) := by decide +kernel
theorem dr_cX17_count__199 : decode cX17_count_ 199 = .ok (.goto 4, 3) := by decide +kernel
theorem dr_cX17_count__204 : decode cX17_count_ 204 = .ok (.aload_n 0, 1) := by decide +kernel
theorem dr_cX17_count__205 : decode cX17_count_ 205 = .ok (.getfield 416, 3) := by decide +kernel
theorem dr_cX17_count__208 : decode cX17_count_ 208 = .ok (.ifCond .eq 15, 3) := by decide +kernel
theorem dr_cX17_count__223 : decode cX17_count_ 223 = .ok (.iconst 0, 1) := by decide +kernel
theorem dr_cX17_count__224 : decode cX17_count_ 224 = .ok (.ireturn, 1) := by decide +kernel
theorem dr_cX17_count__211 : decode cX17_count_ 211 = .ok (.aload_n 0, 1) := by decide +kernel
theorem dr_cX17_count__212 : decode cX17_count_ 212 = .ok (.getfield 365, 3) := by decide +kernel
theorem dr_cX17_count__215 : decode cX17_count_ 215 = .ok (.bipush 21, 2) := by decide +kernel
theorem dr_cX17_count__217 : decode cX17_count_ 217 = .ok (.invokevirtual 432, 3) := by decide +kernel
theorem wr_11_79 : (Jvm.Cond.methodLink "SpillForgeModel" (432 : Nat) ({ cls := "SpillForgeModel$Code", name := "count", desc := "(I)I" } : Jvm.MethodName)) ∈ gw := gw_11 79 rfl rfl
theorem wr_11_82 : (Jvm.Cond.code ({ cls := "SpillForgeModel$Code", name := "count", desc := "(I)I" } : Jvm.MethodName) prog_16_method_8_code (5 : Nat) (Option.some Jvm.ClassFile.FieldType.int)) ∈ gw := gw_11 82 rfl rfl
theorem wr_11_80 : (Jvm.Cond.instanceMethod ({ cls := "SpillForgeModel$Code", name := "count", desc := "(I)I" } : Jvm.MethodName)) ∈ gw := gw_11 80 rfl rfl
theorem wr_11_81 : (Jvm.Cond.selects "SpillForgeModel$Code" ({ cls := "SpillForgeModel$Code", name := "count", desc := "(I)I" } : Jvm.MethodName) ({ cls := "SpillForgeModel$Code", name := "count", desc := "(I)I" } : Jvm.MethodName)) ∈ gw := gw_11 81 rfl rfl
theorem dr_cX17_count__220 : decode cX17_count_ 220 = .ok (.goto 4, 3) := by decide +kernel
theorem dr_cX17_count__225 : decode cX17_count_ 225 = .ok (.aload_n 0, 1) := by decide +kernel
theorem dr_cX17_count__226 : decode cX17_count_ 226 = .ok (.getfield 416, 3) := by decide +kernel
theorem dr_cX17_count__229 : decode cX17_count_ 229 = .ok (.ifCond .eq 15, 3) := by decide +kernel
theorem dr_cX17_count__244 : decode cX17_count_ 244 = .ok (.iconst 0, 1) := by decide +kernel
theorem dr_cX17_count__245 : decode cX17_count_ 245 = .ok (.ireturn, 1) := by decide +kernel
theorem dr_cX17_count__232 : decode cX17_count_ 232 = .ok (.aload_n 0, 1) := by decide +kernel
theorem dr_cX17_count__233 : decode cX17_count_ 233 = .ok (.getfield 365, 3) := by decide +kernel
theorem dr_cX17_count__236 : decode cX17_count_ 236 = .ok (.bipush 23, 2) := by decide +kernel
theorem dr_cX17_count__238 : decode cX17_count_ 238 = .ok (.invokevirtual 432, 3) := by decide +kernel
theorem dr_cX17_count__241 : decode cX17_count_ 241 = .ok (.goto 4, 3) := by decide +kernel
theorem dr_cX17_count__246 : decode cX17_count_ 246 = .ok (.aload_n 0, 1) := by decide +kernel
theorem dr_cX17_count__247 : decode cX17_count_ 247 = .ok (.iconst 1, 1) := by decide +kernel
theorem dr_cX17_count__248 : decode cX17_count_ 248 = .ok (.invokevirtual 385, 3) := by decide +kernel
theorem dr_cX17_count__251 : decode cX17_count_ 251 = .ok (.ireturn, 1) := by decide +kernel
abbrev ky_588291_SpillForgeModel_colourCount : gKey := (cX17_colourCount, 3, "SpillForgeModel", (some FieldType.int), [], "colourCount", fun _ _ => True)
def pt_588291_SpillForgeModel_colourCount (D : va_G) (I : FieldType → ClassId) (γ el : Nat → Nat → Nat) (P588287 : List Nat) (F588288 : Nat → va_E) (q588289 : Nat) : Option Value → va_W → Nat → Nat → Prop := fun r w dc ds => ∃ (F588543 : Nat → va_E) (o588542 : Int32), r = some (.int o588542) ∧ w = va_pl P588287 F588543 ∧ RS D I P588287 F588543 γ el ∧ rStr γ [] F588288 F588543 ∧ dc ≤ 0 ∧ ds ≤ 0 ∧ (F588543 q588289 = F588288 q588289)
set_option maxRecDepth 100000 in
set_option maxHeartbeats 4000000 in
theorem ct_588291_SpillForgeModel_colourCount (l : Launch) (hl0 : l.stackTraces = false) (D : va_G) (I : FieldType → ClassId) (γ el : Nat → Nat → Nat) (P588287 : List Nat) (F588288 : Nat → va_E) (q588289 : Nat) (hT : RS D I P588287 F588288 γ el) (htq588289 : rKd γ q588289 10) (x588290 : 0 < γ 6 1) : CtA (gV D I) l yX17_colourCount cX17_colourCount 3 (some FieldType.int) 6 141 0 0 [.ref q588289] (va_pl P588287 F588288) (pt_588291_SpillForgeModel_colourCount D I γ el P588287 F588288 q588289) gNA := by
  refine CtA_of hl0 (by decide) (Nat.le_of_ble_eq_true rfl) ?_
  have hm588292 : q588289 ∈ P588287 := RS_m hT htq588289 (by decide)
  refine rk10_e (show rk_10 γ (F588288 q588289) from RS_o hT htq588289) (fun q588294 q588295 p588296 p588297 p588298 p588299 p588300 p588301 p588302 p588303 p588304 p588305 p588306 p588307 p588308 p588309 p588310 he588293 hB588337 ht588311 ht588312 ht588313 ht588314 ht588315 ht588316 ht588317 ht588318 ht588319 ht588320 ht588321 ht588322 ht588323 ht588324 ht588325 ht588326 ht588327 ht588328 ht588329 ht588330 ht588331 ht588332 ht588333 ht588334 hB588338 => ?_)
  have fq588339 : γ 6 (γ 1 (γ 9 6)) = γ 6 0 := by rw [show γ 1 (γ 9 6) = 0 from ht588332]
  have fq588340 : γ 6 (γ 1 (γ 9 7)) = γ 6 1 := by rw [show γ 1 (γ 9 7) = 1 from ht588333]
  have fq588341 : γ 6 (γ 1 (γ 9 8)) = γ 6 2 := by rw [show γ 1 (γ 9 8) = 2 from ht588334]
  have r588342 : p588310.toInt ≤ γ 12 q588295 := by have z := hB588338; unfold rM2 at z; exact z.2.2
  refine G_iconst 0 dr_cX17_colourCount_0 (by decide +kernel) ?_
  refine G_istore_n (L' := [(1, .int 0), (0, .ref q588289)]) dr_cX17_colourCount_1 (Nat.le_of_ble_eq_true rfl) rfl ?_
  refine G_aload_n 1 dr_cX17_colourCount_2 rfl ?_
  refine G_aload_n 1 dr_cX17_colourCount_3 rfl ?_
  refine Gp_get 7 hm588292 he588293 dr_cX17_colourCount_4 (gk_X17 D I) (Nat.le_of_ble_eq_true rfl) wr_7_81 rfl ?_
  refine G_iconst 0 dr_cX17_colourCount_7 (by decide +kernel) ?_
  refine Gw_callV (As := [.ref (γ 9 7), .int 0]) (gV_ok D I) (ct_277516_SpillForgeModel_graph l hl0 D I γ el P588287 F588288 q588289 (γ 9 7) 0 hT htq588289 ht588320 (gB_w (gBl (show Int32.toInt 0 = 0 by decide)) (by decide) (by decide)) (by have qa0 : Int32.toInt 0 = 0 := (by decide); omega)) dr_cX17_colourCount_8 ⟨wr_10_233, wr_1_14, wr_10_236, by decide, rfl, (Nat.le_of_ble_eq_true rfl), (Nat.le_of_ble_eq_true rfl)⟩ wr_10_235 wr_p_99 hm588292 he588293 rfl (show 0 + 0 ≤ 0 by first | omega | decide) (show 0 + 0 ≤ 0 by first | omega | decide) (Nat.le_of_ble_eq_true rfl) (fun r588346 w588347 dc588343 ds588344 hp588345 => ?_) (fun _ _ _ _ _ z => z.elim)
  obtain ⟨F588351, rfl, rfl, hT588352, hs588353, hdc, hds, x588348, x588349, ht588350⟩ := hp588345
  have hs588354 : rStr γ [] F588288 F588351 := rStr_tr (rStr_rf (γ := γ) (W := []) (F := F588288)) hs588353
  have kp588355 : F588351 q588289 = F588288 q588289 := x588349
  have he588356 : F588351 q588289 = .inr (22, [.ref (γ 9 0), .ref (γ 9 1), .ref (γ 9 2), .ref (γ 9 3), .ref (γ 9 4), .ref (γ 9 5), .ref (γ 9 6), .ref (γ 9 7), .ref (γ 9 8), .int p588296, .int p588297, .int p588298, .int p588299, .int p588300, .int p588301, .ref (γ 9 15), .ref (γ 9 16), .ref (γ 9 17), .ref (γ 9 18), .ref (γ 9 19), .ref (γ 9 20), .ref (γ 9 21), .ref (γ 9 22), .int p588302, .int p588303, .int p588304, .int p588305, .int p588306, .ref q588294, .ref (γ 9 29), .int p588307, .ref (γ 9 31), .int p588308, .int p588309, .int p588310, .ref q588295]) := (x588349).trans he588293
  rw [show Int32.toInt 0 = 0 from by decide] at x588348
  change G _ _ _ _ _ _ _ _ _ _ _
  refine G_widen (cs' := 0) (sl' := 0) (by omega) (by omega) ?_
  refine G_iconst 0 dr_cX17_colourCount_11 (by decide +kernel) ?_
  refine G_istore_n (L' := [(2, .int 0), (1, .int 0), (0, .ref q588289)]) dr_cX17_colourCount_12 (Nat.le_of_ble_eq_true rfl) rfl ?_
  have hlp13_588526 : ∀ (n13_588526 : Nat) (g588525 : Int32) (g588526 : Int32), gB g588525 0 2000 → ((2001 : Int) - g588525.toInt).toNat < n13_588526 → G (gV D I) l (gRm 6 141 0 0) (gMA (gV D I) (pt_588291_SpillForgeModel_colourCount D I γ el P588287 F588288 q588289) gNA 0 0) ky_588291_SpillForgeModel_colourCount 13 [(2, .int g588525), (1, .int g588526), (0, .ref q588289)] [] (va_pl P588287 F588351) 0 0 := by
    intro n13_588526
    induction n13_588526 with
    | zero => intro g588525 g588526 bg588525 hm13_588526; exact absurd hm13_588526 (Nat.not_lt_zero _)
    | succ n13_588526 ih13_588526 =>
      intro g588525 g588526 bg588525 hm13_588526
      have bg588526 := gB_any g588526
      refine G_iload_n 0 dr_cX17_colourCount_13 rfl ?_
      refine G_sipush 2000 dr_cX17_colourCount_14 (by decide +kernel) ?_
      refine G_icmp_ge 43 dr_cX17_colourCount_17 (by decide +kernel) (fun hc588528 => ?_) (fun hc588528 => ?_)
      · have r588529 : 2000 ≤ g588525.toInt := gj_leL hc588528 (show Int32.toInt 2000 = 2000 by decide)
        have bg588525' : gB g588525 2000 2000 := ⟨by omega, by omega⟩
        refine G_iload_n 1 dr_cX17_colourCount_43 rfl ?_
        exact G_iretA dr_cX17_colourCount_44 rfl (Nat.le_of_ble_eq_true rfl) (Nat.le_of_ble_eq_true rfl) ⟨F588351, g588526, rfl, rfl, hT588352, hs588354, (Nat.le_of_ble_eq_true rfl), (Nat.le_of_ble_eq_true rfl), kp588355⟩
      · have r588530 : g588525.toInt < 2000 := gj_nleL hc588528 (show Int32.toInt 2000 = 2000 by decide)
        have bg588525' : gB g588525 0 1999 := ⟨by omega, by omega⟩
        refine G_iload_n 1 dr_cX17_colourCount_20 rfl ?_
        refine G_aload_n 2 dr_cX17_colourCount_21 rfl ?_
        refine Gp_get 3 hm588292 he588356 dr_cX17_colourCount_22 (gk_X17 D I) (Nat.le_of_ble_eq_true rfl) wr_7_77 rfl ?_
        refine G_iload_n 0 dr_cX17_colourCount_25 rfl ?_
        have hm588531 : (γ 9 3) ∈ P588287 := RS_m hT588352 ht588316 (by decide)
        obtain ⟨f588533, he588532, bf588533⟩ := show rk_14 I (F588351 (γ 9 3)) from RS_o hT588352 ht588316
        refine Gp_zald 3 hm588531 he588532 dr_cX17_colourCount_26 rfl (gB_in bg588525' (by decide) (by decide)) (G_nam fun z588534 hz588534 => ?_)
        have bz588534 : gB z588534 0 1 := by rw [hz588534]; exact bf588533 _
        refine G_if_eq 34 dr_cX17_colourCount_27 (by decide +kernel) (fun hc588535 => ?_) (fun hc588535 => ?_)
        · have r588536 : z588534.toInt = 0 := gj_eq hc588535 (show Int32.toInt 0 = 0 by decide)
          have bz588534' : gB z588534 0 0 := gB_t0 r588536
          refine G_iconst 0 dr_cX17_colourCount_34 (by decide +kernel) ?_
          refine G_iadd dr_cX17_colourCount_35 (G_nam fun z588537 hz588537 => ?_)
          have ez588537 : z588537.toInt = g588526.toInt + 0 := by rw [gI_add hz588537 bg588526 (gBl (show Int32.toInt 0 = 0 by decide)) (by decide) (by decide), show Int32.toInt 0 = 0 from by decide]
          have bz588537 : gB z588537 (-2147483648) 2147483647 := gB_add (gI_add hz588537 bg588526 (gBl (show Int32.toInt 0 = 0 by decide)) (by decide) (by decide)) bg588526 (gBl (show Int32.toInt 0 = 0 by decide)) (by decide) (by decide)
          refine G_istore_n (L' := [(1, .int z588537), (2, .int g588525), (0, .ref q588289)]) dr_cX17_colourCount_36 (Nat.le_of_ble_eq_true rfl) rfl ?_
          obtain ⟨z588538, hz588538⟩ : ∃ z : Int32, z = g588525 + Int32.ofInt 1 := ⟨_, rfl⟩
          have ez588538 : z588538.toInt = g588525.toInt + 1 := gI_inc hz588538 (by decide) bg588525' (by decide) (by decide)
          have bz588538 : gB z588538 1 2000 := ⟨by omega, by omega⟩
          refine G_iinc (L' := [(2, .int z588538), (1, .int z588537), (0, .ref q588289)]) z588538 1 dr_cX17_colourCount_37 rfl hz588538.symm (Nat.le_of_ble_eq_true rfl) rfl ?_
          refine G_goto 13 dr_cX17_colourCount_40 (by decide +kernel) ?_
          exact ih13_588526 z588538 z588537 (gB_w bz588538 (by decide) (by decide)) (mz_up ez588538 (Int.le_trans bg588525'.2 (by decide)) hm13_588526)
        · have r588539 : z588534.toInt ≠ 0 := gj_neq hc588535 (show Int32.toInt 0 = 0 by decide)
          have bz588534' : gB z588534 1 1 := gB_t1 bz588534 r588539
          refine G_iconst 1 dr_cX17_colourCount_30 (by decide +kernel) ?_
          refine G_goto 35 dr_cX17_colourCount_31 (by decide +kernel) ?_
          refine G_iadd dr_cX17_colourCount_35 (G_nam fun z588540 hz588540 => ?_)
          have bz588540 : gB z588540 (-2147483648) 2147483647 := gB_any z588540
          refine G_istore_n (L' := [(1, .int z588540), (2, .int g588525), (0, .ref q588289)]) dr_cX17_colourCount_36 (Nat.le_of_ble_eq_true rfl) rfl ?_
          obtain ⟨z588541, hz588541⟩ : ∃ z : Int32, z = g588525 + Int32.ofInt 1 := ⟨_, rfl⟩
          have ez588541 : z588541.toInt = g588525.toInt + 1 := gI_inc hz588541 (by decide) bg588525' (by decide) (by decide)
          have bz588541 : gB z588541 1 2000 := ⟨by omega, by omega⟩
          refine G_iinc (L' := [(2, .int z588541), (1, .int z588540), (0, .ref q588289)]) z588541 1 dr_cX17_colourCount_37 rfl hz588541.symm (Nat.le_of_ble_eq_true rfl) rfl ?_
          refine G_goto 13 dr_cX17_colourCount_40 (by decide +kernel) ?_
          exact ih13_588526 z588541 z588540 (gB_w bz588541 (by decide) (by decide)) (mz_up ez588541 (Int.le_trans bg588525'.2 (by decide)) hm13_588526)
  exact hlp13_588526 (((2001 : Int) - 0).toNat + 1) 0 0 (gB_w (gBl (show Int32.toInt 0 = 0 by decide)) (by decide) (by decide)) (Nat.lt_succ_self _)
abbrev ky_588082_SpillForgeModel_count : gKey := (cX17_count_, 2, "SpillForgeModel", (some FieldType.int), [], "count", fun _ _ => True)
def pt_588082_SpillForgeModel_count (D : va_G) (I : FieldType → ClassId) (γ el : Nat → Nat → Nat) (P588076 : List Nat) (F588077 : Nat → va_E) (q588078 : Nat) (p588079 : Int32) : Option Value → va_W → Nat → Nat → Prop := fun r w dc ds => ∃ (F588753 : Nat → va_E) (o588752 : Int32), r = some (.int o588752) ∧ w = va_pl P588076 F588753 ∧ RS D I P588076 F588753 γ el ∧ rStr γ [] F588077 F588753 ∧ dc ≤ 0 ∧ ds ≤ 0 ∧ (fI (F588753 q588078) 9).toInt = (fI (F588077 q588078) 9).toInt ∧ (fI (F588753 q588078) 10).toInt = (fI (F588077 q588078) 10).toInt ∧ (fI (F588753 q588078) 32).toInt = (fI (F588077 q588078) 32).toInt
set_option maxRecDepth 100000 in
set_option maxHeartbeats 4000000 in
theorem ct_588082_SpillForgeModel_count (l : Launch) (hl0 : l.stackTraces = false) (D : va_G) (I : FieldType → ClassId) (γ el : Nat → Nat → Nat) (P588076 : List Nat) (F588077 : Nat → va_E) (q588078 : Nat) (p588079 : Int32) (hT : RS D I P588076 F588077 γ el) (htq588078 : rKd γ q588078 10) (x588080 : ((fI (F588077 q588078) 9).toInt = 0 ∨ 0 < γ 6 0)) (x588081 : ((fI (F588077 q588078) 10).toInt = 0 ∨ 0 < γ 6 1)) : CtA (gV D I) l yX17_count_ cX17_count_ 2 (some FieldType.int) 7 163 0 0 [.ref q588078, .int p588079] (va_pl P588076 F588077) (pt_588082_SpillForgeModel_count D I γ el P588076 F588077 q588078 p588079) gNA := by
  refine CtA_of hl0 (by decide) (Nat.le_of_ble_eq_true rfl) ?_
  have bp588079 := gB_any p588079
  have hm588083 : q588078 ∈ P588076 := RS_m hT htq588078 (by decide)
  refine rk10_e (show rk_10 γ (F588077 q588078) from RS_o hT htq588078) (fun q588085 q588086 p588087 p588088 p588089 p588090 p588091 p588092 p588093 p588094 p588095 p588096 p588097 p588098 p588099 p588100 p588101 he588084 hB588128 ht588102 ht588103 ht588104 ht588105 ht588106 ht588107 ht588108 ht588109 ht588110 ht588111 ht588112 ht588113 ht588114 ht588115 ht588116 ht588117 ht588118 ht588119 ht588120 ht588121 ht588122 ht588123 ht588124 ht588125 hB588129 => ?_)
  have ac588130 : (fI (F588077 q588078) 9).toInt = p588087.toInt := by rw [he588084]; rfl
  have bp588087 : gB p588087 0 1 := (hB588128.1)
  have ac588131 : (fI (F588077 q588078) 10).toInt = p588088.toInt := by rw [he588084]; rfl
  have bp588088 : gB p588088 0 1 := (hB588128.2.1)
  have ac588132 : (fI (F588077 q588078) 32).toInt = p588099.toInt := by rw [he588084]; rfl
  have bp588099 : gB p588099 0 8192 := (hB588128.2.2.2.2.2.2.2.1)
  have fq588133 : γ 6 (γ 1 (γ 9 6)) = γ 6 0 := by rw [show γ 1 (γ 9 6) = 0 from ht588123]
  have fq588134 : γ 6 (γ 1 (γ 9 7)) = γ 6 1 := by rw [show γ 1 (γ 9 7) = 1 from ht588124]
  have fq588135 : γ 6 (γ 1 (γ 9 8)) = γ 6 2 := by rw [show γ 1 (γ 9 8) = 2 from ht588125]
  have r588136 : p588101.toInt ≤ γ 12 q588086 := by have z := hB588129; unfold rM2 at z; exact z.2.2
  refine G_aload_n 0 dr_cX17_count__0 rfl ?_
  refine G_iconst 0 dr_cX17_count__1 (by decide +kernel) ?_
  refine Gp_put 30 hm588083 he588084 dr_cX17_count__2 (gk_X17 D I) (Nat.le_of_ble_eq_true rfl) wr_7_104 rfl rfl rfl (Nat.le_of_ble_eq_true rfl) (fun F588137 e588138 n588139 => ?_)
  have he588140 : F588137 q588078 = .inr (22, [.ref (γ 9 0), .ref (γ 9 1), .ref (γ 9 2), .ref (γ 9 3), .ref (γ 9 4), .ref (γ 9 5), .ref (γ 9 6), .ref (γ 9 7), .ref (γ 9 8), .int p588087, .int p588088, .int p588089, .int p588090, .int p588091, .int p588092, .ref (γ 9 15), .ref (γ 9 16), .ref (γ 9 17), .ref (γ 9 18), .ref (γ 9 19), .ref (γ 9 20), .ref (γ 9 21), .ref (γ 9 22), .int p588093, .int p588094, .int p588095, .int p588096, .int p588097, .ref q588085, .ref (γ 9 29), .int 0, .ref (γ 9 31), .int p588099, .int p588100, .int p588101, .ref q588086]) := e588138
  have hs588141 : rStr γ [] F588077 F588137 := rStr_put (rStr_rf (γ := γ) (W := []) (F := F588077)) n588139 htq588078 (by decide)
  refine G_iload_n 1 dr_cX17_count__5 rfl ?_
  by_cases hs588142 : p588079 = 0
  · have ehs588142 : p588079.toInt = 0 := gj_eq hs588142 (show Int32.toInt 0 = 0 by decide)
    have bp588079' : gB p588079 0 0 := ⟨by omega, by omega⟩
    refine G_eqi (y := 0) hs588142 ?_
    refine G_tableIn 68 dr_cX17_count__6 (by decide) (by decide) (by first | rfl | decide) (by decide) ?_
    refine G_aload_n 0 dr_cX17_count__68 rfl ?_
    refine Gp_get 9 hm588083 he588140 dr_cX17_count__69 (gk_X17 D I) (Nat.le_of_ble_eq_true rfl) wr_7_83 rfl ?_
    refine G_if_eq 85 dr_cX17_count__72 (by decide +kernel) (fun hc588143 => ?_) (fun hc588143 => ?_)
    · have r588144 : p588087.toInt = 0 := gj_eq hc588143 (show Int32.toInt 0 = 0 by decide)
      have bp588087' : gB p588087 0 0 := gB_t0 r588144
      refine G_iconst 0 dr_cX17_count__85 (by decide +kernel) ?_
      have hT588145 : RS D I P588076 F588137 γ el := RS_set hT n588139 htq588078 (by decide) ⟨q588085, q588086, p588087, p588088, p588089, p588090, p588091, p588092, p588093, p588094, p588095, p588096, p588097, 0, p588099, p588100, p588101, he588140, ⟨(gB_w bp588087' (by decide) (by decide)), bp588088, (hB588128.2.2.1), (hB588128.2.2.2.1), (hB588128.2.2.2.2.1), (hB588128.2.2.2.2.2.1), (hB588128.2.2.2.2.2.2.1), bp588099, (hB588128.2.2.2.2.2.2.2.2)⟩, ht588102, ht588103, ht588104, ht588105, ht588106, ht588107, ht588108, ht588109, ht588110, ht588111, ht588112, ht588113, ht588114, ht588115, ht588116, ht588117, ht588118, ht588119, ht588120, ht588121, ht588122, ht588123, ht588124, ht588125, hB588129⟩
      have ac588146 : (fI (F588137 q588078) 9).toInt = p588087.toInt := by rw [he588140]; rfl
      have ac588147 : (fI (F588137 q588078) 10).toInt = p588088.toInt := by rw [he588140]; rfl
      have ac588148 : (fI (F588137 q588078) 32).toInt = p588099.toInt := by rw [he588140]; rfl
      exact G_iretA dr_cX17_count__86 rfl (Nat.le_of_ble_eq_true rfl) (Nat.le_of_ble_eq_true rfl) ⟨F588137, 0, rfl, rfl, hT588145, hs588141, (Nat.le_of_ble_eq_true rfl), (Nat.le_of_ble_eq_true rfl), (by have qa0 : Int32.toInt 0 = 0 := (by decide); omega), (by have qa0 : Int32.toInt 0 = 0 := (by decide); omega), (by have qa0 : Int32.toInt 0 = 0 := (by decide); omega)⟩
    · have r588149 : p588087.toInt ≠ 0 := gj_neq hc588143 (show Int32.toInt 0 = 0 by decide)
      have bp588087' : gB p588087 1 1 := gB_t1 bp588087 r588149
      refine G_aload_n 0 dr_cX17_count__75 rfl ?_
      refine Gp_get 6 hm588083 he588140 dr_cX17_count__76 (gk_X17 D I) (Nat.le_of_ble_eq_true rfl) wr_7_80 rfl ?_
      have hT588150 : RS D I P588076 F588137 γ el := RS_set hT n588139 htq588078 (by decide) ⟨q588085, q588086, p588087, p588088, p588089, p588090, p588091, p588092, p588093, p588094, p588095, p588096, p588097, 0, p588099, p588100, p588101, he588140, ⟨(gB_w bp588087' (by decide) (by decide)), bp588088, (hB588128.2.2.1), (hB588128.2.2.2.1), (hB588128.2.2.2.2.1), (hB588128.2.2.2.2.2.1), (hB588128.2.2.2.2.2.2.1), bp588099, (hB588128.2.2.2.2.2.2.2.2)⟩, ht588102, ht588103, ht588104, ht588105, ht588106, ht588107, ht588108, ht588109, ht588110, ht588111, ht588112, ht588113, ht588114, ht588115, ht588116, ht588117, ht588118, ht588119, ht588120, ht588121, ht588122, ht588123, ht588124, ht588125, hB588129⟩
      have hm588151 : (γ 9 6) ∈ P588076 := RS_m hT588150 ht588110 (by decide)
      obtain ⟨q588153, q588154, p588155, p588156, he588152, ht588172, ht588157, ht588158, ht588159, ht588160, r588161, r588162, r588163, r588164, r588165, r588166, r588167, r588168, r588169, r588170, r588171⟩ := show rk_9 γ el (γ 9 6) (F588137 (γ 9 6)) from RS_o hT588150 ht588110
      have bp588155 : gB p588155 0 1000000 := ⟨by omega, by omega⟩
      have bp588156 : gB p588156 0 1000000 := ⟨by omega, by omega⟩
      refine Gw_callV (As := []) (gV_ok D I) (cp_12780_Code_size l hl0 D I P588076 F588137 (γ 9 6) q588153 q588154 p588155 p588156 hm588151 he588152) dr_cX17_count__79 ⟨wr_10_160, wr_1_15, wr_9_131, by decide, rfl, (Nat.le_of_ble_eq_true rfl), (Nat.le_of_ble_eq_true rfl)⟩ wr_9_129 wr_9_130 hm588151 he588152 rfl (show 0 + 0 ≤ 0 by first | omega | decide) (show 0 + 0 ≤ 0 by first | omega | decide) (Nat.le_of_ble_eq_true rfl) (fun r588176 w588177 dc588173 ds588174 hp588175 => ?_) (fun _ _ _ _ _ z => z.elim)
      obtain ⟨rfl, rfl, hdc, hds⟩ := hp588175
      change G _ _ _ _ _ _ _ (.int p588156 :: _) _ _ _
      refine G_widen (cs' := 0) (sl' := 0) (by omega) (by omega) ?_
      refine G_goto 86 dr_cX17_count__82 (by decide +kernel) ?_
      have ac588178 : (fI (F588137 q588078) 9).toInt = p588087.toInt := by rw [he588140]; rfl
      have ac588179 : (fI (F588137 q588078) 10).toInt = p588088.toInt := by rw [he588140]; rfl
      have ac588180 : (fI (F588137 q588078) 32).toInt = p588099.toInt := by rw [he588140]; rfl
      exact G_iretA dr_cX17_count__86 rfl (Nat.le_of_ble_eq_true rfl) (Nat.le_of_ble_eq_true rfl) ⟨F588137, p588156, rfl, rfl, hT588150, hs588141, (Nat.le_of_ble_eq_true rfl), (Nat.le_of_ble_eq_true rfl), (by omega), (by omega), (by omega)⟩
  by_cases hs588181 : p588079 = 1
  · have ehs588181 : p588079.toInt = 1 := gj_eq hs588181 (show Int32.toInt 1 = 1 by decide)
    have bp588079' : gB p588079 1 1 := ⟨by omega, by omega⟩
    refine G_eqi (y := 1) hs588181 ?_
    refine G_tableIn 87 dr_cX17_count__6 (by decide) (by decide) (by first | rfl | decide) (by decide) ?_
    refine G_aload_n 0 dr_cX17_count__87 rfl ?_
    refine Gp_get 9 hm588083 he588140 dr_cX17_count__88 (gk_X17 D I) (Nat.le_of_ble_eq_true rfl) wr_7_83 rfl ?_
    refine G_if_eq 104 dr_cX17_count__91 (by decide +kernel) (fun hc588182 => ?_) (fun hc588182 => ?_)
    · have r588183 : p588087.toInt = 0 := gj_eq hc588182 (show Int32.toInt 0 = 0 by decide)
      have bp588087' : gB p588087 0 0 := gB_t0 r588183
      refine G_iconst 0 dr_cX17_count__104 (by decide +kernel) ?_
      have hT588184 : RS D I P588076 F588137 γ el := RS_set hT n588139 htq588078 (by decide) ⟨q588085, q588086, p588087, p588088, p588089, p588090, p588091, p588092, p588093, p588094, p588095, p588096, p588097, 0, p588099, p588100, p588101, he588140, ⟨(gB_w bp588087' (by decide) (by decide)), bp588088, (hB588128.2.2.1), (hB588128.2.2.2.1), (hB588128.2.2.2.2.1), (hB588128.2.2.2.2.2.1), (hB588128.2.2.2.2.2.2.1), bp588099, (hB588128.2.2.2.2.2.2.2.2)⟩, ht588102, ht588103, ht588104, ht588105, ht588106, ht588107, ht588108, ht588109, ht588110, ht588111, ht588112, ht588113, ht588114, ht588115, ht588116, ht588117, ht588118, ht588119, ht588120, ht588121, ht588122, ht588123, ht588124, ht588125, hB588129⟩
      have ac588185 : (fI (F588137 q588078) 9).toInt = p588087.toInt := by rw [he588140]; rfl
      have ac588186 : (fI (F588137 q588078) 10).toInt = p588088.toInt := by rw [he588140]; rfl
      have ac588187 : (fI (F588137 q588078) 32).toInt = p588099.toInt := by rw [he588140]; rfl
      exact G_iretA dr_cX17_count__105 rfl (Nat.le_of_ble_eq_true rfl) (Nat.le_of_ble_eq_true rfl) ⟨F588137, 0, rfl, rfl, hT588184, hs588141, (Nat.le_of_ble_eq_true rfl), (Nat.le_of_ble_eq_true rfl), (by have qa0 : Int32.toInt 0 = 0 := (by decide); omega), (by have qa0 : Int32.toInt 0 = 0 := (by decide); omega), (by have qa0 : Int32.toInt 0 = 0 := (by decide); omega)⟩
    · have r588188 : p588087.toInt ≠ 0 := gj_neq hc588182 (show Int32.toInt 0 = 0 by decide)
      have bp588087' : gB p588087 1 1 := gB_t1 bp588087 r588188
      refine G_aload_n 0 dr_cX17_count__94 rfl ?_
      refine Gp_get 6 hm588083 he588140 dr_cX17_count__95 (gk_X17 D I) (Nat.le_of_ble_eq_true rfl) wr_7_80 rfl ?_
      have hT588189 : RS D I P588076 F588137 γ el := RS_set hT n588139 htq588078 (by decide) ⟨q588085, q588086, p588087, p588088, p588089, p588090, p588091, p588092, p588093, p588094, p588095, p588096, p588097, 0, p588099, p588100, p588101, he588140, ⟨(gB_w bp588087' (by decide) (by decide)), bp588088, (hB588128.2.2.1), (hB588128.2.2.2.1), (hB588128.2.2.2.2.1), (hB588128.2.2.2.2.2.1), (hB588128.2.2.2.2.2.2.1), bp588099, (hB588128.2.2.2.2.2.2.2.2)⟩, ht588102, ht588103, ht588104, ht588105, ht588106, ht588107, ht588108, ht588109, ht588110, ht588111, ht588112, ht588113, ht588114, ht588115, ht588116, ht588117, ht588118, ht588119, ht588120, ht588121, ht588122, ht588123, ht588124, ht588125, hB588129⟩
      have hm588195 : (γ 9 6) ∈ P588076 := RS_m hT588189 ht588110 (by decide)
      obtain ⟨q588197, q588198, p588199, p588200, he588196, ht588216, ht588201, ht588202, ht588203, ht588204, r588205, r588206, r588207, r588208, r588209, r588210, r588211, r588212, r588213, r588214, r588215⟩ := show rk_9 γ el (γ 9 6) (F588137 (γ 9 6)) from RS_o hT588189 ht588110
      have bp588199 : gB p588199 0 1000000 := ⟨by omega, by omega⟩
      have bp588200 : gB p588200 0 1000000 := ⟨by omega, by omega⟩
      refine Gw_callV (As := []) (gV_ok D I) (ct_7810_Code_countRows l hl0 D I γ el P588076 F588137 (γ 9 6) hT588189 ht588110 (by have qa0 : Int32.toInt 0 = 0 := (by decide); omega)) dr_cX17_count__98 ⟨wr_10_229, wr_1_15, wr_10_232, by decide, rfl, (Nat.le_of_ble_eq_true rfl), (Nat.le_of_ble_eq_true rfl)⟩ wr_10_230 wr_10_231 hm588195 he588196 rfl (show 0 + 0 ≤ 0 by first | omega | decide) (show 0 + 0 ≤ 0 by first | omega | decide) (Nat.le_of_ble_eq_true rfl) (fun r588193 w588194 dc588190 ds588191 hp588192 => ?_) (fun _ _ _ _ _ z => z.elim)
      obtain ⟨o588217, rfl, rfl, hdc, hds, ht588218⟩ := hp588192
      have bo588217 := gB_any o588217
      change G _ _ _ _ _ _ _ (.int o588217 :: _) _ _ _
      refine G_widen (cs' := 0) (sl' := 0) (by omega) (by omega) ?_
      refine G_goto 105 dr_cX17_count__101 (by decide +kernel) ?_
      have ac588219 : (fI (F588137 q588078) 9).toInt = p588087.toInt := by rw [he588140]; rfl
      have ac588220 : (fI (F588137 q588078) 10).toInt = p588088.toInt := by rw [he588140]; rfl
      have ac588221 : (fI (F588137 q588078) 32).toInt = p588099.toInt := by rw [he588140]; rfl
      exact G_iretA dr_cX17_count__105 rfl (Nat.le_of_ble_eq_true rfl) (Nat.le_of_ble_eq_true rfl) ⟨F588137, o588217, rfl, rfl, hT588189, hs588141, (Nat.le_of_ble_eq_true rfl), (Nat.le_of_ble_eq_true rfl), (by omega), (by omega), (by omega)⟩
  by_cases hs588222 : p588079 = 2
  · have ehs588222 : p588079.toInt = 2 := gj_eq hs588222 (show Int32.toInt 2 = 2 by decide)
    have bp588079' : gB p588079 2 2 := ⟨by omega, by omega⟩
    refine G_eqi (y := 2) hs588222 ?_
    refine G_tableIn 106 dr_cX17_count__6 (by decide) (by decide) (by first | rfl | decide) (by decide) ?_
    refine G_aload_n 0 dr_cX17_count__106 rfl ?_
    refine Gp_get 33 hm588083 he588140 dr_cX17_count__107 (gk_X17 D I) (Nat.le_of_ble_eq_true rfl) wr_7_107 rfl ?_
    have bp588100 : gB p588100 (-2147483648) 2147483647 := (gB_any p588100)
    have hT588223 : RS D I P588076 F588137 γ el := RS_set hT n588139 htq588078 (by decide) ⟨q588085, q588086, p588087, p588088, p588089, p588090, p588091, p588092, p588093, p588094, p588095, p588096, p588097, 0, p588099, p588100, p588101, he588140, ⟨bp588087, bp588088, (hB588128.2.2.1), (hB588128.2.2.2.1), (hB588128.2.2.2.2.1), (hB588128.2.2.2.2.2.1), (hB588128.2.2.2.2.2.2.1), bp588099, (hB588128.2.2.2.2.2.2.2.2)⟩, ht588102, ht588103, ht588104, ht588105, ht588106, ht588107, ht588108, ht588109, ht588110, ht588111, ht588112, ht588113, ht588114, ht588115, ht588116, ht588117, ht588118, ht588119, ht588120, ht588121, ht588122, ht588123, ht588124, ht588125, hB588129⟩
    have ac588224 : (fI (F588137 q588078) 9).toInt = p588087.toInt := by rw [he588140]; rfl
    have ac588225 : (fI (F588137 q588078) 10).toInt = p588088.toInt := by rw [he588140]; rfl
    have ac588226 : (fI (F588137 q588078) 32).toInt = p588099.toInt := by rw [he588140]; rfl
    exact G_iretA dr_cX17_count__110 rfl (Nat.le_of_ble_eq_true rfl) (Nat.le_of_ble_eq_true rfl) ⟨F588137, p588100, rfl, rfl, hT588223, hs588141, (Nat.le_of_ble_eq_true rfl), (Nat.le_of_ble_eq_true rfl), (by omega), (by omega), (by omega)⟩
  by_cases hs588227 : p588079 = 3
  · have ehs588227 : p588079.toInt = 3 := gj_eq hs588227 (show Int32.toInt 3 = 3 by decide)
    have bp588079' : gB p588079 3 3 := ⟨by omega, by omega⟩
    refine G_eqi (y := 3) hs588227 ?_
    refine G_tableIn 111 dr_cX17_count__6 (by decide) (by decide) (by first | rfl | decide) (by decide) ?_
    refine G_aload_n 0 dr_cX17_count__111 rfl ?_
    refine Gp_get 32 hm588083 he588140 dr_cX17_count__112 (gk_X17 D I) (Nat.le_of_ble_eq_true rfl) wr_7_106 rfl ?_
    have hT588228 : RS D I P588076 F588137 γ el := RS_set hT n588139 htq588078 (by decide) ⟨q588085, q588086, p588087, p588088, p588089, p588090, p588091, p588092, p588093, p588094, p588095, p588096, p588097, 0, p588099, p588100, p588101, he588140, ⟨bp588087, bp588088, (hB588128.2.2.1), (hB588128.2.2.2.1), (hB588128.2.2.2.2.1), (hB588128.2.2.2.2.2.1), (hB588128.2.2.2.2.2.2.1), bp588099, (hB588128.2.2.2.2.2.2.2.2)⟩, ht588102, ht588103, ht588104, ht588105, ht588106, ht588107, ht588108, ht588109, ht588110, ht588111, ht588112, ht588113, ht588114, ht588115, ht588116, ht588117, ht588118, ht588119, ht588120, ht588121, ht588122, ht588123, ht588124, ht588125, hB588129⟩
    have ac588229 : (fI (F588137 q588078) 9).toInt = p588087.toInt := by rw [he588140]; rfl
    have ac588230 : (fI (F588137 q588078) 10).toInt = p588088.toInt := by rw [he588140]; rfl
    have ac588231 : (fI (F588137 q588078) 32).toInt = p588099.toInt := by rw [he588140]; rfl
    exact G_iretA dr_cX17_count__115 rfl (Nat.le_of_ble_eq_true rfl) (Nat.le_of_ble_eq_true rfl) ⟨F588137, p588099, rfl, rfl, hT588228, hs588141, (Nat.le_of_ble_eq_true rfl), (Nat.le_of_ble_eq_true rfl), (by omega), (by omega), (by omega)⟩
  by_cases hs588232 : p588079 = 4
  · have ehs588232 : p588079.toInt = 4 := gj_eq hs588232 (show Int32.toInt 4 = 4 by decide)
    have bp588079' : gB p588079 4 4 := ⟨by omega, by omega⟩
    refine G_eqi (y := 4) hs588232 ?_
    refine G_tableIn 116 dr_cX17_count__6 (by decide) (by decide) (by first | rfl | decide) (by decide) ?_
    refine G_aload_n 0 dr_cX17_count__116 rfl ?_
    refine Gp_get 34 hm588083 he588140 dr_cX17_count__117 (gk_X17 D I) (Nat.le_of_ble_eq_true rfl) wr_7_108 rfl ?_
    have bp588101 : gB p588101 0 16777216 := (hB588128.2.2.2.2.2.2.2.2)
    have hT588233 : RS D I P588076 F588137 γ el := RS_set hT n588139 htq588078 (by decide) ⟨q588085, q588086, p588087, p588088, p588089, p588090, p588091, p588092, p588093, p588094, p588095, p588096, p588097, 0, p588099, p588100, p588101, he588140, ⟨bp588087, bp588088, (hB588128.2.2.1), (hB588128.2.2.2.1), (hB588128.2.2.2.2.1), (hB588128.2.2.2.2.2.1), (hB588128.2.2.2.2.2.2.1), bp588099, bp588101⟩, ht588102, ht588103, ht588104, ht588105, ht588106, ht588107, ht588108, ht588109, ht588110, ht588111, ht588112, ht588113, ht588114, ht588115, ht588116, ht588117, ht588118, ht588119, ht588120, ht588121, ht588122, ht588123, ht588124, ht588125, hB588129⟩
    have ac588234 : (fI (F588137 q588078) 9).toInt = p588087.toInt := by rw [he588140]; rfl
    have ac588235 : (fI (F588137 q588078) 10).toInt = p588088.toInt := by rw [he588140]; rfl
    have ac588236 : (fI (F588137 q588078) 32).toInt = p588099.toInt := by rw [he588140]; rfl
    exact G_iretA dr_cX17_count__120 rfl (Nat.le_of_ble_eq_true rfl) (Nat.le_of_ble_eq_true rfl) ⟨F588137, p588101, rfl, rfl, hT588233, hs588141, (Nat.le_of_ble_eq_true rfl), (Nat.le_of_ble_eq_true rfl), (by omega), (by omega), (by omega)⟩
  by_cases hs588237 : p588079 = 5
  · have ehs588237 : p588079.toInt = 5 := gj_eq hs588237 (show Int32.toInt 5 = 5 by decide)
    have bp588079' : gB p588079 5 5 := ⟨by omega, by omega⟩
    refine G_eqi (y := 5) hs588237 ?_
    refine G_tableIn 121 dr_cX17_count__6 (by decide) (by decide) (by first | rfl | decide) (by decide) ?_
    refine G_aload_n 0 dr_cX17_count__121 rfl ?_
    refine Gp_get 10 hm588083 he588140 dr_cX17_count__122 (gk_X17 D I) (Nat.le_of_ble_eq_true rfl) wr_7_84 rfl ?_
    refine G_if_eq 138 dr_cX17_count__125 (by decide +kernel) (fun hc588238 => ?_) (fun hc588238 => ?_)
    · have r588239 : p588088.toInt = 0 := gj_eq hc588238 (show Int32.toInt 0 = 0 by decide)
      have bp588088' : gB p588088 0 0 := gB_t0 r588239
      refine G_iconst 0 dr_cX17_count__138 (by decide +kernel) ?_
      have hT588240 : RS D I P588076 F588137 γ el := RS_set hT n588139 htq588078 (by decide) ⟨q588085, q588086, p588087, p588088, p588089, p588090, p588091, p588092, p588093, p588094, p588095, p588096, p588097, 0, p588099, p588100, p588101, he588140, ⟨bp588087, (gB_w bp588088' (by decide) (by decide)), (hB588128.2.2.1), (hB588128.2.2.2.1), (hB588128.2.2.2.2.1), (hB588128.2.2.2.2.2.1), (hB588128.2.2.2.2.2.2.1), bp588099, (hB588128.2.2.2.2.2.2.2.2)⟩, ht588102, ht588103, ht588104, ht588105, ht588106, ht588107, ht588108, ht588109, ht588110, ht588111, ht588112, ht588113, ht588114, ht588115, ht588116, ht588117, ht588118, ht588119, ht588120, ht588121, ht588122, ht588123, ht588124, ht588125, hB588129⟩
      have ac588241 : (fI (F588137 q588078) 9).toInt = p588087.toInt := by rw [he588140]; rfl
      have ac588242 : (fI (F588137 q588078) 10).toInt = p588088.toInt := by rw [he588140]; rfl
      have ac588243 : (fI (F588137 q588078) 32).toInt = p588099.toInt := by rw [he588140]; rfl
      exact G_iretA dr_cX17_count__139 rfl (Nat.le_of_ble_eq_true rfl) (Nat.le_of_ble_eq_true rfl) ⟨F588137, 0, rfl, rfl, hT588240, hs588141, (Nat.le_of_ble_eq_true rfl), (Nat.le_of_ble_eq_true rfl), (by have qa0 : Int32.toInt 0 = 0 := (by decide); omega), (by have qa0 : Int32.toInt 0 = 0 := (by decide); omega), (by have qa0 : Int32.toInt 0 = 0 := (by decide); omega)⟩
    · have r588244 : p588088.toInt ≠ 0 := gj_neq hc588238 (show Int32.toInt 0 = 0 by decide)
      have bp588088' : gB p588088 1 1 := gB_t1 bp588088 r588244
      refine G_aload_n 0 dr_cX17_count__128 rfl ?_
      refine Gp_get 7 hm588083 he588140 dr_cX17_count__129 (gk_X17 D I) (Nat.le_of_ble_eq_true rfl) wr_7_81 rfl ?_
      have hT588245 : RS D I P588076 F588137 γ el := RS_set hT n588139 htq588078 (by decide) ⟨q588085, q588086, p588087, p588088, p588089, p588090, p588091, p588092, p588093, p588094, p588095, p588096, p588097, 0, p588099, p588100, p588101, he588140, ⟨bp588087, (gB_w bp588088' (by decide) (by decide)), (hB588128.2.2.1), (hB588128.2.2.2.1), (hB588128.2.2.2.2.1), (hB588128.2.2.2.2.2.1), (hB588128.2.2.2.2.2.2.1), bp588099, (hB588128.2.2.2.2.2.2.2.2)⟩, ht588102, ht588103, ht588104, ht588105, ht588106, ht588107, ht588108, ht588109, ht588110, ht588111, ht588112, ht588113, ht588114, ht588115, ht588116, ht588117, ht588118, ht588119, ht588120, ht588121, ht588122, ht588123, ht588124, ht588125, hB588129⟩
      have hm588251 : (γ 9 7) ∈ P588076 := RS_m hT588245 ht588111 (by decide)
      obtain ⟨q588253, q588254, p588255, p588256, he588252, ht588272, ht588257, ht588258, ht588259, ht588260, r588261, r588262, r588263, r588264, r588265, r588266, r588267, r588268, r588269, r588270, r588271⟩ := show rk_9 γ el (γ 9 7) (F588137 (γ 9 7)) from RS_o hT588245 ht588111
      have bp588255 : gB p588255 0 1000000 := ⟨by omega, by omega⟩
      have bp588256 : gB p588256 0 1000000 := ⟨by omega, by omega⟩
      refine Gw_callV (As := []) (gV_ok D I) (ct_7810_Code_countRows l hl0 D I γ el P588076 F588137 (γ 9 7) hT588245 ht588111 (by have qa0 : Int32.toInt 0 = 0 := (by decide); omega)) dr_cX17_count__132 ⟨wr_10_229, wr_1_15, wr_10_232, by decide, rfl, (Nat.le_of_ble_eq_true rfl), (Nat.le_of_ble_eq_true rfl)⟩ wr_10_230 wr_10_231 hm588251 he588252 rfl (show 0 + 0 ≤ 0 by first | omega | decide) (show 0 + 0 ≤ 0 by first | omega | decide) (Nat.le_of_ble_eq_true rfl) (fun r588249 w588250 dc588246 ds588247 hp588248 => ?_) (fun _ _ _ _ _ z => z.elim)
      obtain ⟨o588273, rfl, rfl, hdc, hds, ht588274⟩ := hp588248
      have bo588273 := gB_any o588273
      change G _ _ _ _ _ _ _ (.int o588273 :: _) _ _ _
      refine G_widen (cs' := 0) (sl' := 0) (by omega) (by omega) ?_
      refine G_goto 139 dr_cX17_count__135 (by decide +kernel) ?_
      have ac588275 : (fI (F588137 q588078) 9).toInt = p588087.toInt := by rw [he588140]; rfl
      have ac588276 : (fI (F588137 q588078) 10).toInt = p588088.toInt := by rw [he588140]; rfl
      have ac588277 : (fI (F588137 q588078) 32).toInt = p588099.toInt := by rw [he588140]; rfl
      exact G_iretA dr_cX17_count__139 rfl (Nat.le_of_ble_eq_true rfl) (Nat.le_of_ble_eq_true rfl) ⟨F588137, o588273, rfl, rfl, hT588245, hs588141, (Nat.le_of_ble_eq_true rfl), (Nat.le_of_ble_eq_true rfl), (by omega), (by omega), (by omega)⟩
  by_cases hs588278 : p588079 = 6
  · have ehs588278 : p588079.toInt = 6 := gj_eq hs588278 (show Int32.toInt 6 = 6 by decide)
    have bp588079' : gB p588079 6 6 := ⟨by omega, by omega⟩
    refine G_eqi (y := 6) hs588278 ?_
    refine G_tableIn 140 dr_cX17_count__6 (by decide) (by decide) (by first | rfl | decide) (by decide) ?_
    refine G_aload_n 0 dr_cX17_count__140 rfl ?_
    refine Gp_get 10 hm588083 he588140 dr_cX17_count__141 (gk_X17 D I) (Nat.le_of_ble_eq_true rfl) wr_7_84 rfl ?_
    refine G_if_eq 154 dr_cX17_count__144 (by decide +kernel) (fun hc588279 => ?_) (fun hc588279 => ?_)
    · have r588280 : p588088.toInt = 0 := gj_eq hc588279 (show Int32.toInt 0 = 0 by decide)
      have bp588088' : gB p588088 0 0 := gB_t0 r588280
      refine G_iconst 0 dr_cX17_count__154 (by decide +kernel) ?_
      have hT588281 : RS D I P588076 F588137 γ el := RS_set hT n588139 htq588078 (by decide) ⟨q588085, q588086, p588087, p588088, p588089, p588090, p588091, p588092, p588093, p588094, p588095, p588096, p588097, 0, p588099, p588100, p588101, he588140, ⟨bp588087, (gB_w bp588088' (by decide) (by decide)), (hB588128.2.2.1), (hB588128.2.2.2.1), (hB588128.2.2.2.2.1), (hB588128.2.2.2.2.2.1), (hB588128.2.2.2.2.2.2.1), bp588099, (hB588128.2.2.2.2.2.2.2.2)⟩, ht588102, ht588103, ht588104, ht588105, ht588106, ht588107, ht588108, ht588109, ht588110, ht588111, ht588112, ht588113, ht588114, ht588115, ht588116, ht588117, ht588118, ht588119, ht588120, ht588121, ht588122, ht588123, ht588124, ht588125, hB588129⟩
      have ac588282 : (fI (F588137 q588078) 9).toInt = p588087.toInt := by rw [he588140]; rfl
      have ac588283 : (fI (F588137 q588078) 10).toInt = p588088.toInt := by rw [he588140]; rfl
      have ac588284 : (fI (F588137 q588078) 32).toInt = p588099.toInt := by rw [he588140]; rfl
      exact G_iretA dr_cX17_count__155 rfl (Nat.le_of_ble_eq_true rfl) (Nat.le_of_ble_eq_true rfl) ⟨F588137, 0, rfl, rfl, hT588281, hs588141, (Nat.le_of_ble_eq_true rfl), (Nat.le_of_ble_eq_true rfl), (by have qa0 : Int32.toInt 0 = 0 := (by decide); omega), (by have qa0 : Int32.toInt 0 = 0 := (by decide); omega), (by have qa0 : Int32.toInt 0 = 0 := (by decide); omega)⟩
    · have r588285 : p588088.toInt ≠ 0 := gj_neq hc588279 (show Int32.toInt 0 = 0 by decide)
      have bp588088' : gB p588088 1 1 := gB_t1 bp588088 r588285
      refine G_aload_n 0 dr_cX17_count__147 rfl ?_
      have hT588286 : RS D I P588076 F588137 γ el := RS_set hT n588139 htq588078 (by decide) ⟨q588085, q588086, p588087, p588088, p588089, p588090, p588091, p588092, p588093, p588094, p588095, p588096, p588097, 0, p588099, p588100, p588101, he588140, ⟨bp588087, (gB_w bp588088' (by decide) (by decide)), (hB588128.2.2.1), (hB588128.2.2.2.1), (hB588128.2.2.2.2.1), (hB588128.2.2.2.2.2.1), (hB588128.2.2.2.2.2.2.1), bp588099, (hB588128.2.2.2.2.2.2.2.2)⟩, ht588102, ht588103, ht588104, ht588105, ht588106, ht588107, ht588108, ht588109, ht588110, ht588111, ht588112, ht588113, ht588114, ht588115, ht588116, ht588117, ht588118, ht588119, ht588120, ht588121, ht588122, ht588123, ht588124, ht588125, hB588129⟩
      have ac588544 : (fI (F588137 q588078) 9).toInt = p588087.toInt := by rw [he588140]; rfl
      have ac588545 : (fI (F588137 q588078) 10).toInt = p588088.toInt := by rw [he588140]; rfl
      have ac588546 : (fI (F588137 q588078) 32).toInt = p588099.toInt := by rw [he588140]; rfl
      refine Gw_callV (As := []) (gV_ok D I) (ct_588291_SpillForgeModel_colourCount l hl0 D I γ el P588076 F588137 q588078 hT588286 htq588078 (by have qa0 : Int32.toInt 0 = 0 := (by decide); omega)) dr_cX17_count__148 ⟨wr_11_75, wr_1_14, wr_11_78, by decide, rfl, (Nat.le_of_ble_eq_true rfl), (Nat.le_of_ble_eq_true rfl)⟩ wr_11_77 wr_p_112 hm588083 he588140 rfl (show 0 + 0 ≤ 0 by first | omega | decide) (show 0 + 0 ≤ 0 by first | omega | decide) (Nat.le_of_ble_eq_true rfl) (fun r588550 w588551 dc588547 ds588548 hp588549 => ?_) (fun _ _ _ _ _ z => z.elim)
      obtain ⟨F588554, o588552, rfl, rfl, hT588555, hs588556, hdc, hds, x588553⟩ := hp588549
      have hs588557 : rStr γ [] F588077 F588554 := rStr_tr hs588141 hs588556
      have kp588558 : F588554 q588078 = F588137 q588078 := x588553
      have he588559 : F588554 q588078 = .inr (22, [.ref (γ 9 0), .ref (γ 9 1), .ref (γ 9 2), .ref (γ 9 3), .ref (γ 9 4), .ref (γ 9 5), .ref (γ 9 6), .ref (γ 9 7), .ref (γ 9 8), .int p588087, .int p588088, .int p588089, .int p588090, .int p588091, .int p588092, .ref (γ 9 15), .ref (γ 9 16), .ref (γ 9 17), .ref (γ 9 18), .ref (γ 9 19), .ref (γ 9 20), .ref (γ 9 21), .ref (γ 9 22), .int p588093, .int p588094, .int p588095, .int p588096, .int p588097, .ref q588085, .ref (γ 9 29), .int 0, .ref (γ 9 31), .int p588099, .int p588100, .int p588101, .ref q588086]) := (x588553).trans he588140
      have bo588552 := gB_any o588552
      change G _ _ _ _ _ _ _ (.int o588552 :: _) _ _ _
      refine G_widen (cs' := 0) (sl' := 0) (by omega) (by omega) ?_
      refine G_goto 155 dr_cX17_count__151 (by decide +kernel) ?_
      have ac588560 : (fI (F588554 q588078) 9).toInt = p588087.toInt := by rw [he588559]; rfl
      have ac588561 : (fI (F588554 q588078) 10).toInt = p588088.toInt := by rw [he588559]; rfl
      have ac588562 : (fI (F588554 q588078) 32).toInt = p588099.toInt := by rw [he588559]; rfl
      exact G_iretA dr_cX17_count__155 rfl (Nat.le_of_ble_eq_true rfl) (Nat.le_of_ble_eq_true rfl) ⟨F588554, o588552, rfl, rfl, hT588555, hs588557, (Nat.le_of_ble_eq_true rfl), (Nat.le_of_ble_eq_true rfl), (by omega), (by omega), (by omega)⟩
  by_cases hs588563 : p588079 = 7
  · have ehs588563 : p588079.toInt = 7 := gj_eq hs588563 (show Int32.toInt 7 = 7 by decide)
    have bp588079' : gB p588079 7 7 := ⟨by omega, by omega⟩
    refine G_eqi (y := 7) hs588563 ?_
    refine G_tableIn 156 dr_cX17_count__6 (by decide) (by decide) (by first | rfl | decide) (by decide) ?_
    refine G_aload_n 0 dr_cX17_count__156 rfl ?_
    refine Gp_get 10 hm588083 he588140 dr_cX17_count__157 (gk_X17 D I) (Nat.le_of_ble_eq_true rfl) wr_7_84 rfl ?_
    refine G_if_eq 170 dr_cX17_count__160 (by decide +kernel) (fun hc588564 => ?_) (fun hc588564 => ?_)
    · have r588565 : p588088.toInt = 0 := gj_eq hc588564 (show Int32.toInt 0 = 0 by decide)
      have bp588088' : gB p588088 0 0 := gB_t0 r588565
      refine G_iconst 0 dr_cX17_count__170 (by decide +kernel) ?_
      have hT588566 : RS D I P588076 F588137 γ el := RS_set hT n588139 htq588078 (by decide) ⟨q588085, q588086, p588087, p588088, p588089, p588090, p588091, p588092, p588093, p588094, p588095, p588096, p588097, 0, p588099, p588100, p588101, he588140, ⟨bp588087, (gB_w bp588088' (by decide) (by decide)), (hB588128.2.2.1), (hB588128.2.2.2.1), (hB588128.2.2.2.2.1), (hB588128.2.2.2.2.2.1), (hB588128.2.2.2.2.2.2.1), bp588099, (hB588128.2.2.2.2.2.2.2.2)⟩, ht588102, ht588103, ht588104, ht588105, ht588106, ht588107, ht588108, ht588109, ht588110, ht588111, ht588112, ht588113, ht588114, ht588115, ht588116, ht588117, ht588118, ht588119, ht588120, ht588121, ht588122, ht588123, ht588124, ht588125, hB588129⟩
      have ac588567 : (fI (F588137 q588078) 9).toInt = p588087.toInt := by rw [he588140]; rfl
      have ac588568 : (fI (F588137 q588078) 10).toInt = p588088.toInt := by rw [he588140]; rfl
      have ac588569 : (fI (F588137 q588078) 32).toInt = p588099.toInt := by rw [he588140]; rfl
      exact G_iretA dr_cX17_count__171 rfl (Nat.le_of_ble_eq_true rfl) (Nat.le_of_ble_eq_true rfl) ⟨F588137, 0, rfl, rfl, hT588566, hs588141, (Nat.le_of_ble_eq_true rfl), (Nat.le_of_ble_eq_true rfl), (by have qa0 : Int32.toInt 0 = 0 := (by decide); omega), (by have qa0 : Int32.toInt 0 = 0 := (by decide); omega), (by have qa0 : Int32.toInt 0 = 0 := (by decide); omega)⟩
    · have r588570 : p588088.toInt ≠ 0 := gj_neq hc588564 (show Int32.toInt 0 = 0 by decide)
      have bp588088' : gB p588088 1 1 := gB_t1 bp588088 r588570
      refine G_aload_n 0 dr_cX17_count__163 rfl ?_
      refine Gp_get 11 hm588083 he588140 dr_cX17_count__164 (gk_X17 D I) (Nat.le_of_ble_eq_true rfl) wr_7_85 rfl ?_
      have bp588089 : gB p588089 0 100 := (hB588128.2.2.1)
      refine G_goto 171 dr_cX17_count__167 (by decide +kernel) ?_
      have hT588571 : RS D I P588076 F588137 γ el := RS_set hT n588139 htq588078 (by decide) ⟨q588085, q588086, p588087, p588088, p588089, p588090, p588091, p588092, p588093, p588094, p588095, p588096, p588097, 0, p588099, p588100, p588101, he588140, ⟨bp588087, (gB_w bp588088' (by decide) (by decide)), bp588089, (hB588128.2.2.2.1), (hB588128.2.2.2.2.1), (hB588128.2.2.2.2.2.1), (hB588128.2.2.2.2.2.2.1), bp588099, (hB588128.2.2.2.2.2.2.2.2)⟩, ht588102, ht588103, ht588104, ht588105, ht588106, ht588107, ht588108, ht588109, ht588110, ht588111, ht588112, ht588113, ht588114, ht588115, ht588116, ht588117, ht588118, ht588119, ht588120, ht588121, ht588122, ht588123, ht588124, ht588125, hB588129⟩
      have ac588572 : (fI (F588137 q588078) 9).toInt = p588087.toInt := by rw [he588140]; rfl
      have ac588573 : (fI (F588137 q588078) 10).toInt = p588088.toInt := by rw [he588140]; rfl
      have ac588574 : (fI (F588137 q588078) 32).toInt = p588099.toInt := by rw [he588140]; rfl
      exact G_iretA dr_cX17_count__171 rfl (Nat.le_of_ble_eq_true rfl) (Nat.le_of_ble_eq_true rfl) ⟨F588137, p588089, rfl, rfl, hT588571, hs588141, (Nat.le_of_ble_eq_true rfl), (Nat.le_of_ble_eq_true rfl), (by omega), (by omega), (by omega)⟩
  by_cases hs588575 : p588079 = 8
  · have ehs588575 : p588079.toInt = 8 := gj_eq hs588575 (show Int32.toInt 8 = 8 by decide)
    have bp588079' : gB p588079 8 8 := ⟨by omega, by omega⟩
    refine G_eqi (y := 8) hs588575 ?_
    refine G_tableIn 172 dr_cX17_count__6 (by decide) (by decide) (by first | rfl | decide) (by decide) ?_
    refine G_aload_n 0 dr_cX17_count__172 rfl ?_
    refine Gp_get 10 hm588083 he588140 dr_cX17_count__173 (gk_X17 D I) (Nat.le_of_ble_eq_true rfl) wr_7_84 rfl ?_
    refine G_if_eq 186 dr_cX17_count__176 (by decide +kernel) (fun hc588576 => ?_) (fun hc588576 => ?_)
    · have r588577 : p588088.toInt = 0 := gj_eq hc588576 (show Int32.toInt 0 = 0 by decide)
      have bp588088' : gB p588088 0 0 := gB_t0 r588577
      refine G_iconst 0 dr_cX17_count__186 (by decide +kernel) ?_
      have hT588578 : RS D I P588076 F588137 γ el := RS_set hT n588139 htq588078 (by decide) ⟨q588085, q588086, p588087, p588088, p588089, p588090, p588091, p588092, p588093, p588094, p588095, p588096, p588097, 0, p588099, p588100, p588101, he588140, ⟨bp588087, (gB_w bp588088' (by decide) (by decide)), (hB588128.2.2.1), (hB588128.2.2.2.1), (hB588128.2.2.2.2.1), (hB588128.2.2.2.2.2.1), (hB588128.2.2.2.2.2.2.1), bp588099, (hB588128.2.2.2.2.2.2.2.2)⟩, ht588102, ht588103, ht588104, ht588105, ht588106, ht588107, ht588108, ht588109, ht588110, ht588111, ht588112, ht588113, ht588114, ht588115, ht588116, ht588117, ht588118, ht588119, ht588120, ht588121, ht588122, ht588123, ht588124, ht588125, hB588129⟩
      have ac588579 : (fI (F588137 q588078) 9).toInt = p588087.toInt := by rw [he588140]; rfl
      have ac588580 : (fI (F588137 q588078) 10).toInt = p588088.toInt := by rw [he588140]; rfl
      have ac588581 : (fI (F588137 q588078) 32).toInt = p588099.toInt := by rw [he588140]; rfl
      exact G_iretA dr_cX17_count__187 rfl (Nat.le_of_ble_eq_true rfl) (Nat.le_of_ble_eq_true rfl) ⟨F588137, 0, rfl, rfl, hT588578, hs588141, (Nat.le_of_ble_eq_true rfl), (Nat.le_of_ble_eq_true rfl), (by have qa0 : Int32.toInt 0 = 0 := (by decide); omega), (by have qa0 : Int32.toInt 0 = 0 := (by decide); omega), (by have qa0 : Int32.toInt 0 = 0 := (by decide); omega)⟩
    · have r588582 : p588088.toInt ≠ 0 := gj_neq hc588576 (show Int32.toInt 0 = 0 by decide)
      have bp588088' : gB p588088 1 1 := gB_t1 bp588088 r588582
      refine G_aload_n 0 dr_cX17_count__179 rfl ?_
      refine Gp_get 12 hm588083 he588140 dr_cX17_count__180 (gk_X17 D I) (Nat.le_of_ble_eq_true rfl) wr_7_86 rfl ?_
      have bp588090 : gB p588090 (-2147483648) 2147483647 := (gB_any p588090)
      refine G_goto 187 dr_cX17_count__183 (by decide +kernel) ?_
      have hT588583 : RS D I P588076 F588137 γ el := RS_set hT n588139 htq588078 (by decide) ⟨q588085, q588086, p588087, p588088, p588089, p588090, p588091, p588092, p588093, p588094, p588095, p588096, p588097, 0, p588099, p588100, p588101, he588140, ⟨bp588087, (gB_w bp588088' (by decide) (by decide)), (hB588128.2.2.1), (hB588128.2.2.2.1), (hB588128.2.2.2.2.1), (hB588128.2.2.2.2.2.1), (hB588128.2.2.2.2.2.2.1), bp588099, (hB588128.2.2.2.2.2.2.2.2)⟩, ht588102, ht588103, ht588104, ht588105, ht588106, ht588107, ht588108, ht588109, ht588110, ht588111, ht588112, ht588113, ht588114, ht588115, ht588116, ht588117, ht588118, ht588119, ht588120, ht588121, ht588122, ht588123, ht588124, ht588125, hB588129⟩
      have ac588584 : (fI (F588137 q588078) 9).toInt = p588087.toInt := by rw [he588140]; rfl
      have ac588585 : (fI (F588137 q588078) 10).toInt = p588088.toInt := by rw [he588140]; rfl
      have ac588586 : (fI (F588137 q588078) 32).toInt = p588099.toInt := by rw [he588140]; rfl
      exact G_iretA dr_cX17_count__187 rfl (Nat.le_of_ble_eq_true rfl) (Nat.le_of_ble_eq_true rfl) ⟨F588137, p588090, rfl, rfl, hT588583, hs588141, (Nat.le_of_ble_eq_true rfl), (Nat.le_of_ble_eq_true rfl), (by omega), (by omega), (by omega)⟩
  by_cases hs588587 : p588079 = 9
  · have ehs588587 : p588079.toInt = 9 := gj_eq hs588587 (show Int32.toInt 9 = 9 by decide)
    have bp588079' : gB p588079 9 9 := ⟨by omega, by omega⟩
    refine G_eqi (y := 9) hs588587 ?_
    refine G_tableIn 188 dr_cX17_count__6 (by decide) (by decide) (by first | rfl | decide) (by decide) ?_
    refine G_aload_n 0 dr_cX17_count__188 rfl ?_
    refine Gp_get 10 hm588083 he588140 dr_cX17_count__189 (gk_X17 D I) (Nat.le_of_ble_eq_true rfl) wr_7_84 rfl ?_
    refine G_if_eq 202 dr_cX17_count__192 (by decide +kernel) (fun hc588588 => ?_) (fun hc588588 => ?_)
    · have r588589 : p588088.toInt = 0 := gj_eq hc588588 (show Int32.toInt 0 = 0 by decide)
      have bp588088' : gB p588088 0 0 := gB_t0 r588589
      refine G_iconst 0 dr_cX17_count__202 (by decide +kernel) ?_
      have hT588590 : RS D I P588076 F588137 γ el := RS_set hT n588139 htq588078 (by decide) ⟨q588085, q588086, p588087, p588088, p588089, p588090, p588091, p588092, p588093, p588094, p588095, p588096, p588097, 0, p588099, p588100, p588101, he588140, ⟨bp588087, (gB_w bp588088' (by decide) (by decide)), (hB588128.2.2.1), (hB588128.2.2.2.1), (hB588128.2.2.2.2.1), (hB588128.2.2.2.2.2.1), (hB588128.2.2.2.2.2.2.1), bp588099, (hB588128.2.2.2.2.2.2.2.2)⟩, ht588102, ht588103, ht588104, ht588105, ht588106, ht588107, ht588108, ht588109, ht588110, ht588111, ht588112, ht588113, ht588114, ht588115, ht588116, ht588117, ht588118, ht588119, ht588120, ht588121, ht588122, ht588123, ht588124, ht588125, hB588129⟩
      have ac588591 : (fI (F588137 q588078) 9).toInt = p588087.toInt := by rw [he588140]; rfl
      have ac588592 : (fI (F588137 q588078) 10).toInt = p588088.toInt := by rw [he588140]; rfl
      have ac588593 : (fI (F588137 q588078) 32).toInt = p588099.toInt := by rw [he588140]; rfl
      exact G_iretA dr_cX17_count__203 rfl (Nat.le_of_ble_eq_true rfl) (Nat.le_of_ble_eq_true rfl) ⟨F588137, 0, rfl, rfl, hT588590, hs588141, (Nat.le_of_ble_eq_true rfl), (Nat.le_of_ble_eq_true rfl), (by have qa0 : Int32.toInt 0 = 0 := (by decide); omega), (by have qa0 : Int32.toInt 0 = 0 := (by decide); omega), (by have qa0 : Int32.toInt 0 = 0 := (by decide); omega)⟩
    · have r588594 : p588088.toInt ≠ 0 := gj_neq hc588588 (show Int32.toInt 0 = 0 by decide)
      have bp588088' : gB p588088 1 1 := gB_t1 bp588088 r588594
      refine G_aload_n 0 dr_cX17_count__195 rfl ?_
      refine Gp_get 13 hm588083 he588140 dr_cX17_count__196 (gk_X17 D I) (Nat.le_of_ble_eq_true rfl) wr_7_87 rfl ?_
      have bp588091 : gB p588091 (-2147483648) 2147483647 := (gB_any p588091)
      refine G_goto 203 dr_cX17_count__199 (by decide +kernel) ?_
      have hT588595 : RS D I P588076 F588137 γ el := RS_set hT n588139 htq588078 (by decide) ⟨q588085, q588086, p588087, p588088, p588089, p588090, p588091, p588092, p588093, p588094, p588095, p588096, p588097, 0, p588099, p588100, p588101, he588140, ⟨bp588087, (gB_w bp588088' (by decide) (by decide)), (hB588128.2.2.1), (hB588128.2.2.2.1), (hB588128.2.2.2.2.1), (hB588128.2.2.2.2.2.1), (hB588128.2.2.2.2.2.2.1), bp588099, (hB588128.2.2.2.2.2.2.2.2)⟩, ht588102, ht588103, ht588104, ht588105, ht588106, ht588107, ht588108, ht588109, ht588110, ht588111, ht588112, ht588113, ht588114, ht588115, ht588116, ht588117, ht588118, ht588119, ht588120, ht588121, ht588122, ht588123, ht588124, ht588125, hB588129⟩
      have ac588596 : (fI (F588137 q588078) 9).toInt = p588087.toInt := by rw [he588140]; rfl
      have ac588597 : (fI (F588137 q588078) 10).toInt = p588088.toInt := by rw [he588140]; rfl
      have ac588598 : (fI (F588137 q588078) 32).toInt = p588099.toInt := by rw [he588140]; rfl
      exact G_iretA dr_cX17_count__203 rfl (Nat.le_of_ble_eq_true rfl) (Nat.le_of_ble_eq_true rfl) ⟨F588137, p588091, rfl, rfl, hT588595, hs588141, (Nat.le_of_ble_eq_true rfl), (Nat.le_of_ble_eq_true rfl), (by omega), (by omega), (by omega)⟩
  by_cases hs588599 : p588079 = 10
  · have ehs588599 : p588079.toInt = 10 := gj_eq hs588599 (show Int32.toInt 10 = 10 by decide)
    have bp588079' : gB p588079 10 10 := ⟨by omega, by omega⟩
    refine G_eqi (y := 10) hs588599 ?_
    refine G_tableIn 204 dr_cX17_count__6 (by decide) (by decide) (by first | rfl | decide) (by decide) ?_
    refine G_aload_n 0 dr_cX17_count__204 rfl ?_
    refine Gp_get 10 hm588083 he588140 dr_cX17_count__205 (gk_X17 D I) (Nat.le_of_ble_eq_true rfl) wr_7_84 rfl ?_
    refine G_if_eq 223 dr_cX17_count__208 (by decide +kernel) (fun hc588600 => ?_) (fun hc588600 => ?_)
    · have r588601 : p588088.toInt = 0 := gj_eq hc588600 (show Int32.toInt 0 = 0 by decide)
      have bp588088' : gB p588088 0 0 := gB_t0 r588601
      refine G_iconst 0 dr_cX17_count__223 (by decide +kernel) ?_
      have hT588602 : RS D I P588076 F588137 γ el := RS_set hT n588139 htq588078 (by decide) ⟨q588085, q588086, p588087, p588088, p588089, p588090, p588091, p588092, p588093, p588094, p588095, p588096, p588097, 0, p588099, p588100, p588101, he588140, ⟨bp588087, (gB_w bp588088' (by decide) (by decide)), (hB588128.2.2.1), (hB588128.2.2.2.1), (hB588128.2.2.2.2.1), (hB588128.2.2.2.2.2.1), (hB588128.2.2.2.2.2.2.1), bp588099, (hB588128.2.2.2.2.2.2.2.2)⟩, ht588102, ht588103, ht588104, ht588105, ht588106, ht588107, ht588108, ht588109, ht588110, ht588111, ht588112, ht588113, ht588114, ht588115, ht588116, ht588117, ht588118, ht588119, ht588120, ht588121, ht588122, ht588123, ht588124, ht588125, hB588129⟩
      have ac588603 : (fI (F588137 q588078) 9).toInt = p588087.toInt := by rw [he588140]; rfl
      have ac588604 : (fI (F588137 q588078) 10).toInt = p588088.toInt := by rw [he588140]; rfl
      have ac588605 : (fI (F588137 q588078) 32).toInt = p588099.toInt := by rw [he588140]; rfl
      exact G_iretA dr_cX17_count__224 rfl (Nat.le_of_ble_eq_true rfl) (Nat.le_of_ble_eq_true rfl) ⟨F588137, 0, rfl, rfl, hT588602, hs588141, (Nat.le_of_ble_eq_true rfl), (Nat.le_of_ble_eq_true rfl), (by have qa0 : Int32.toInt 0 = 0 := (by decide); omega), (by have qa0 : Int32.toInt 0 = 0 := (by decide); omega), (by have qa0 : Int32.toInt 0 = 0 := (by decide); omega)⟩
    · have r588606 : p588088.toInt ≠ 0 := gj_neq hc588600 (show Int32.toInt 0 = 0 by decide)
      have bp588088' : gB p588088 1 1 := gB_t1 bp588088 r588606
      refine G_aload_n 0 dr_cX17_count__211 rfl ?_
      refine Gp_get 7 hm588083 he588140 dr_cX17_count__212 (gk_X17 D I) (Nat.le_of_ble_eq_true rfl) wr_7_81 rfl ?_
      refine G_bipush 21 dr_cX17_count__215 (by decide +kernel) ?_
      have hT588607 : RS D I P588076 F588137 γ el := RS_set hT n588139 htq588078 (by decide) ⟨q588085, q588086, p588087, p588088, p588089, p588090, p588091, p588092, p588093, p588094, p588095, p588096, p588097, 0, p588099, p588100, p588101, he588140, ⟨bp588087, (gB_w bp588088' (by decide) (by decide)), (hB588128.2.2.1), (hB588128.2.2.2.1), (hB588128.2.2.2.2.1), (hB588128.2.2.2.2.2.1), (hB588128.2.2.2.2.2.2.1), bp588099, (hB588128.2.2.2.2.2.2.2.2)⟩, ht588102, ht588103, ht588104, ht588105, ht588106, ht588107, ht588108, ht588109, ht588110, ht588111, ht588112, ht588113, ht588114, ht588115, ht588116, ht588117, ht588118, ht588119, ht588120, ht588121, ht588122, ht588123, ht588124, ht588125, hB588129⟩
      have hm588613 : (γ 9 7) ∈ P588076 := RS_m hT588607 ht588111 (by decide)
      obtain ⟨q588615, q588616, p588617, p588618, he588614, ht588634, ht588619, ht588620, ht588621, ht588622, r588623, r588624, r588625, r588626, r588627, r588628, r588629, r588630, r588631, r588632, r588633⟩ := show rk_9 γ el (γ 9 7) (F588137 (γ 9 7)) from RS_o hT588607 ht588111
      have bp588617 : gB p588617 0 1000000 := ⟨by omega, by omega⟩
      have bp588618 : gB p588618 0 1000000 := ⟨by omega, by omega⟩
      refine Gw_callV (As := [.int 21]) (gV_ok D I) (ct_8782_Code_count l hl0 D I γ el P588076 F588137 (γ 9 7) 21 hT588607 ht588111 (by have qa0 : Int32.toInt 0 = 0 := (by decide); omega)) dr_cX17_count__217 ⟨wr_11_79, wr_1_15, wr_11_82, by decide, rfl, (Nat.le_of_ble_eq_true rfl), (Nat.le_of_ble_eq_true rfl)⟩ wr_11_80 wr_11_81 hm588613 he588614 rfl (show 0 + 0 ≤ 0 by first | omega | decide) (show 0 + 0 ≤ 0 by first | omega | decide) (Nat.le_of_ble_eq_true rfl) (fun r588611 w588612 dc588608 ds588609 hp588610 => ?_) (fun _ _ _ _ _ z => z.elim)
      obtain ⟨o588635, rfl, rfl, hdc, hds, ht588636⟩ := hp588610
      have bo588635 := gB_any o588635
      change G _ _ _ _ _ _ _ (.int o588635 :: _) _ _ _
      refine G_widen (cs' := 0) (sl' := 0) (by omega) (by omega) ?_
      refine G_goto 224 dr_cX17_count__220 (by decide +kernel) ?_
      have ac588637 : (fI (F588137 q588078) 9).toInt = p588087.toInt := by rw [he588140]; rfl
      have ac588638 : (fI (F588137 q588078) 10).toInt = p588088.toInt := by rw [he588140]; rfl
      have ac588639 : (fI (F588137 q588078) 32).toInt = p588099.toInt := by rw [he588140]; rfl
      exact G_iretA dr_cX17_count__224 rfl (Nat.le_of_ble_eq_true rfl) (Nat.le_of_ble_eq_true rfl) ⟨F588137, o588635, rfl, rfl, hT588607, hs588141, (Nat.le_of_ble_eq_true rfl), (Nat.le_of_ble_eq_true rfl), (by omega), (by omega), (by omega)⟩
  by_cases hs588640 : p588079 = 11
  · have ehs588640 : p588079.toInt = 11 := gj_eq hs588640 (show Int32.toInt 11 = 11 by decide)
    have bp588079' : gB p588079 11 11 := ⟨by omega, by omega⟩
    refine G_eqi (y := 11) hs588640 ?_
    refine G_tableIn 225 dr_cX17_count__6 (by decide) (by decide) (by first | rfl | decide) (by decide) ?_
    refine G_aload_n 0 dr_cX17_count__225 rfl ?_
    refine Gp_get 10 hm588083 he588140 dr_cX17_count__226 (gk_X17 D I) (Nat.le_of_ble_eq_true rfl) wr_7_84 rfl ?_
    refine G_if_eq 244 dr_cX17_count__229 (by decide +kernel) (fun hc588641 => ?_) (fun hc588641 => ?_)
    · have r588642 : p588088.toInt = 0 := gj_eq hc588641 (show Int32.toInt 0 = 0 by decide)
      have bp588088' : gB p588088 0 0 := gB_t0 r588642
      refine G_iconst 0 dr_cX17_count__244 (by decide +kernel) ?_
      have hT588643 : RS D I P588076 F588137 γ el := RS_set hT n588139 htq588078 (by decide) ⟨q588085, q588086, p588087, p588088, p588089, p588090, p588091, p588092, p588093, p588094, p588095, p588096, p588097, 0, p588099, p588100, p588101, he588140, ⟨bp588087, (gB_w bp588088' (by decide) (by decide)), (hB588128.2.2.1), (hB588128.2.2.2.1), (hB588128.2.2.2.2.1), (hB588128.2.2.2.2.2.1), (hB588128.2.2.2.2.2.2.1), bp588099, (hB588128.2.2.2.2.2.2.2.2)⟩, ht588102, ht588103, ht588104, ht588105, ht588106, ht588107, ht588108, ht588109, ht588110, ht588111, ht588112, ht588113, ht588114, ht588115, ht588116, ht588117, ht588118, ht588119, ht588120, ht588121, ht588122, ht588123, ht588124, ht588125, hB588129⟩
      have ac588644 : (fI (F588137 q588078) 9).toInt = p588087.toInt := by rw [he588140]; rfl
      have ac588645 : (fI (F588137 q588078) 10).toInt = p588088.toInt := by rw [he588140]; rfl
      have ac588646 : (fI (F588137 q588078) 32).toInt = p588099.toInt := by rw [he588140]; rfl
      exact G_iretA dr_cX17_count__245 rfl (Nat.le_of_ble_eq_true rfl) (Nat.le_of_ble_eq_true rfl) ⟨F588137, 0, rfl, rfl, hT588643, hs588141, (Nat.le_of_ble_eq_true rfl), (Nat.le_of_ble_eq_true rfl), (by have qa0 : Int32.toInt 0 = 0 := (by decide); omega), (by have qa0 : Int32.toInt 0 = 0 := (by decide); omega), (by have qa0 : Int32.toInt 0 = 0 := (by decide); omega)⟩
    · have r588647 : p588088.toInt ≠ 0 := gj_neq hc588641 (show Int32.toInt 0 = 0 by decide)
      have bp588088' : gB p588088 1 1 := gB_t1 bp588088 r588647
      refine G_aload_n 0 dr_cX17_count__232 rfl ?_
      refine Gp_get 7 hm588083 he588140 dr_cX17_count__233 (gk_X17 D I) (Nat.le_of_ble_eq_true rfl) wr_7_81 rfl ?_
      refine G_bipush 23 dr_cX17_count__236 (by decide +kernel) ?_
      have hT588648 : RS D I P588076 F588137 γ el := RS_set hT n588139 htq588078 (by decide) ⟨q588085, q588086, p588087, p588088, p588089, p588090, p588091, p588092, p588093, p588094, p588095, p588096, p588097, 0, p588099, p588100, p588101, he588140, ⟨bp588087, (gB_w bp588088' (by decide) (by decide)), (hB588128.2.2.1), (hB588128.2.2.2.1), (hB588128.2.2.2.2.1), (hB588128.2.2.2.2.2.1), (hB588128.2.2.2.2.2.2.1), bp588099, (hB588128.2.2.2.2.2.2.2.2)⟩, ht588102, ht588103, ht588104, ht588105, ht588106, ht588107, ht588108, ht588109, ht588110, ht588111, ht588112, ht588113, ht588114, ht588115, ht588116, ht588117, ht588118, ht588119, ht588120, ht588121, ht588122, ht588123, ht588124, ht588125, hB588129⟩
      have hm588654 : (γ 9 7) ∈ P588076 := RS_m hT588648 ht588111 (by decide)
      obtain ⟨q588656, q588657, p588658, p588659, he588655, ht588675, ht588660, ht588661, ht588662, ht588663, r588664, r588665, r588666, r588667, r588668, r588669, r588670, r588671, r588672, r588673, r588674⟩ := show rk_9 γ el (γ 9 7) (F588137 (γ 9 7)) from RS_o hT588648 ht588111
      have bp588658 : gB p588658 0 1000000 := ⟨by omega, by omega⟩
      have bp588659 : gB p588659 0 1000000 := ⟨by omega, by omega⟩
      refine Gw_callV (As := [.int 23]) (gV_ok D I) (ct_8782_Code_count l hl0 D I γ el P588076 F588137 (γ 9 7) 23 hT588648 ht588111 (by have qa0 : Int32.toInt 0 = 0 := (by decide); omega)) dr_cX17_count__238 ⟨wr_11_79, wr_1_15, wr_11_82, by decide, rfl, (Nat.le_of_ble_eq_true rfl), (Nat.le_of_ble_eq_true rfl)⟩ wr_11_80 wr_11_81 hm588654 he588655 rfl (show 0 + 0 ≤ 0 by first | omega | decide) (show 0 + 0 ≤ 0 by first | omega | decide) (Nat.le_of_ble_eq_true rfl) (fun r588652 w588653 dc588649 ds588650 hp588651 => ?_) (fun _ _ _ _ _ z => z.elim)
      obtain ⟨o588676, rfl, rfl, hdc, hds, ht588677⟩ := hp588651
      have bo588676 := gB_any o588676
      change G _ _ _ _ _ _ _ (.int o588676 :: _) _ _ _
      refine G_widen (cs' := 0) (sl' := 0) (by omega) (by omega) ?_
      refine G_goto 245 dr_cX17_count__241 (by decide +kernel) ?_
      have ac588678 : (fI (F588137 q588078) 9).toInt = p588087.toInt := by rw [he588140]; rfl
      have ac588679 : (fI (F588137 q588078) 10).toInt = p588088.toInt := by rw [he588140]; rfl
      have ac588680 : (fI (F588137 q588078) 32).toInt = p588099.toInt := by rw [he588140]; rfl
      exact G_iretA dr_cX17_count__245 rfl (Nat.le_of_ble_eq_true rfl) (Nat.le_of_ble_eq_true rfl) ⟨F588137, o588676, rfl, rfl, hT588648, hs588141, (Nat.le_of_ble_eq_true rfl), (Nat.le_of_ble_eq_true rfl), (by omega), (by omega), (by omega)⟩
  have ehs588142 := lv_neT hs588142 (show Int32.toInt 0 = 0 by decide)
  have ehs588181 := lv_neT hs588181 (show Int32.toInt 1 = 1 by decide)
  have ehs588222 := lv_neT hs588222 (show Int32.toInt 2 = 2 by decide)
  have ehs588227 := lv_neT hs588227 (show Int32.toInt 3 = 3 by decide)
  have ehs588232 := lv_neT hs588232 (show Int32.toInt 4 = 4 by decide)
  have ehs588237 := lv_neT hs588237 (show Int32.toInt 5 = 5 by decide)
  have ehs588278 := lv_neT hs588278 (show Int32.toInt 6 = 6 by decide)
  have ehs588563 := lv_neT hs588563 (show Int32.toInt 7 = 7 by decide)
  have ehs588575 := lv_neT hs588575 (show Int32.toInt 8 = 8 by decide)
  have ehs588587 := lv_neT hs588587 (show Int32.toInt 9 = 9 by decide)
  have ehs588599 := lv_neT hs588599 (show Int32.toInt 10 = 10 by decide)
  have ehs588640 := lv_neT hs588640 (show Int32.toInt 11 = 11 by decide)
  refine G_tableOut 246 dr_cX17_count__6 (by omega) (by decide) ?_
  refine G_aload_n 0 dr_cX17_count__246 rfl ?_
  refine G_iconst 1 dr_cX17_count__247 (by decide +kernel) ?_
  have hT588681 : RS D I P588076 F588137 γ el := RS_set hT n588139 htq588078 (by decide) ⟨q588085, q588086, p588087, p588088, p588089, p588090, p588091, p588092, p588093, p588094, p588095, p588096, p588097, 0, p588099, p588100, p588101, he588140, ⟨bp588087, bp588088, (hB588128.2.2.1), (hB588128.2.2.2.1), (hB588128.2.2.2.2.1), (hB588128.2.2.2.2.2.1), (hB588128.2.2.2.2.2.2.1), bp588099, (hB588128.2.2.2.2.2.2.2.2)⟩, ht588102, ht588103, ht588104, ht588105, ht588106, ht588107, ht588108, ht588109, ht588110, ht588111, ht588112, ht588113, ht588114, ht588115, ht588116, ht588117, ht588118, ht588119, ht588120, ht588121, ht588122, ht588123, ht588124, ht588125, hB588129⟩
  have ac588682 : (fI (F588137 q588078) 9).toInt = p588087.toInt := by rw [he588140]; rfl
  have ac588683 : (fI (F588137 q588078) 10).toInt = p588088.toInt := by rw [he588140]; rfl
  have ac588684 : (fI (F588137 q588078) 32).toInt = p588099.toInt := by rw [he588140]; rfl
  refine Gw_callV (As := [.int 1]) (gV_ok D I) (ct_580660_SpillForgeModel_no l hl0 D I γ el P588076 F588137 q588078 1 hT588681 htq588078) dr_cX17_count__248 ⟨wr_7_191, wr_1_14, wr_7_194, by decide, rfl, (Nat.le_of_ble_eq_true rfl), (Nat.le_of_ble_eq_true rfl)⟩ wr_7_193 wr_p_73 hm588083 he588140 rfl (show 0 + 0 ≤ 0 by first | omega | decide) (show 0 + 0 ≤ 0 by first | omega | decide) (Nat.le_of_ble_eq_true rfl) (fun r588688 w588689 dc588685 ds588686 hp588687 => ?_) (fun _ _ _ _ _ z => z.elim)
  obtain ⟨F588695, rfl, rfl, hT588696, hs588697, hdc, hds, x588690, x588691, x588692, x588693, ht588694⟩ := hp588687
  have hs588698 : rStr γ [] F588077 F588695 := rStr_tr hs588141 hs588697
  rw [show Int32.toInt 1 = 1 from by decide] at x588693
  change G _ _ _ _ _ _ _ (.int 0 :: _) _ _ _
  refine G_widen (cs' := 0) (sl' := 0) (by omega) (by omega) ?_
  have hm588699 : q588078 ∈ P588076 := RS_m hT588696 htq588078 (by decide)
  refine rk10_e (show rk_10 γ (F588695 q588078) from RS_o hT588696 htq588078) (fun q588701 q588702 p588703 p588704 p588705 p588706 p588707 p588708 p588709 p588710 p588711 p588712 p588713 p588714 p588715 p588716 p588717 he588700 hB588744 ht588718 ht588719 ht588720 ht588721 ht588722 ht588723 ht588724 ht588725 ht588726 ht588727 ht588728 ht588729 ht588730 ht588731 ht588732 ht588733 ht588734 ht588735 ht588736 ht588737 ht588738 ht588739 ht588740 ht588741 hB588745 => ?_)
  have ac588746 : (fI (F588695 q588078) 9).toInt = p588703.toInt := by rw [he588700]; rfl
  have bp588703 : gB p588703 0 1 := (hB588744.1)
  have ac588747 : (fI (F588695 q588078) 10).toInt = p588704.toInt := by rw [he588700]; rfl
  have bp588704 : gB p588704 0 1 := (hB588744.2.1)
  have ac588748 : (fI (F588695 q588078) 32).toInt = p588715.toInt := by rw [he588700]; rfl
  have bp588715 : gB p588715 0 8192 := (hB588744.2.2.2.2.2.2.2.1)
  have ac588749 : (fI (F588695 q588078) 9).toInt = p588703.toInt := by rw [he588700]; rfl
  have ac588750 : (fI (F588695 q588078) 10).toInt = p588704.toInt := by rw [he588700]; rfl
  have ac588751 : (fI (F588695 q588078) 32).toInt = p588715.toInt := by rw [he588700]; rfl
  exact G_iretA dr_cX17_count__251 rfl (Nat.le_of_ble_eq_true rfl) (Nat.le_of_ble_eq_true rfl) ⟨F588695, 0, rfl, rfl, hT588696, hs588698, (Nat.le_of_ble_eq_true rfl), (Nat.le_of_ble_eq_true rfl), (by have qa0 : Int32.toInt 0 = 0 := (by decide); omega), (by have qa0 : Int32.toInt 0 = 0 := (by decide); omega), (by have qa0 : Int32.toInt 0 = 0 := (by decide); omega)⟩
