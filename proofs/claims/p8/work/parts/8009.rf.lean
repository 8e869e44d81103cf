theorem dr_cX17_colourCount_0 : decode cX17_colourCount 0 = .ok (.iconst 0, 1) := by decide +kernel
theorem dr_cX17_colourCount_1 : decode cX17_colourCount 1 = .ok (.istore_n 1, 1) := by decide +kernel
theorem dr_cX17_colourCount_2 : decode cX17_colourCount 2 = .ok (.aload_n 0, 1) := by decide +kernel
theorem dr_cX17_colourCount_3 : decode cX17_colourCount 3 = .ok (.aload_n 0, 1) := by decide +kernel
theorem dr_cX17_colourCount_4 : decode cX17_colourCount 4 = .ok (.getfield 365, 3) := by decide +kernel
theorem dr_cX17_colourCount_7 : decode cX17_colourCount 7 = .ok (.iconst 0, 1) := by decide +kernel
theorem dr_cX17_colourCount_8 : decode cX17_colourCount 8 = .ok (.invokevirtual 243, 3) := by decide +kernel
theorem dr_cX17_colourCount_11 : decode cX17_colourCount 11 = .ok (.iconst 0, 1) := by decide +kernel
theorem dr_cX17_colourCount_12 : decode cX17_colourCount 12 = .ok (.istore_n 2, 1) := by decide +kernel
theorem dr_cX17_colourCount_13 : decode cX17_colourCount 13 = .ok (.iload_n 2, 1) := by decide +kernel
theorem dr_cX17_colourCount_14 : decode cX17_colourCount 14 = .ok (.sipush 2000, 3) := by decide +kernel
theorem dr_cX17_colourCount_17 : decode cX17_colourCount 17 = .ok (.if_icmp .ge 26, 3) := by decide +kernel
theorem dr_cX17_colourCount_43 : decode cX17_colourCount 43 = .ok (.iload_n 1, 1) := by decide +kernel
theorem dr_cX17_colourCount_44 : decode cX17_colourCount 44 = .ok (.ireturn, 1) := by decide +kernel
theorem dr_cX17_colourCount_20 : decode cX17_colourCount 20 = .ok (.iload_n 1, 1) := by decide +kernel
theorem dr_cX17_colourCount_21 : decode cX17_colourCount 21 = .ok (.aload_n 0, 1) := by decide +kernel
theorem dr_cX17_colourCount_22 : decode cX17_colourCount 22 = .ok (.getfield 131, 3) := by decide +kernel
theorem dr_cX17_colourCount_25 : decode cX17_colourCount 25 = .ok (.iload_n 2, 1) := by decide +kernel
theorem dr_cX17_colourCount_26 : decode cX17_colourCount 26 = .ok (.baload, 1) := by decide +kernel
theorem dr_cX17_colourCount_27 : decode cX17_colourCount 27 = .ok (.ifCond .eq 7, 3) := by decide +kernel
theorem dr_cX17_colourCount_34 : decode cX17_colourCount 34 = .ok (.iconst 0, 1) := by decide +kernel
theorem dr_cX17_colourCount_35 : decode cX17_colourCount 35 = .ok (.iadd, 1) := by decide +kernel
theorem dr_cX17_colourCount_36 : decode cX17_colourCount 36 = .ok (.istore_n 1, 1) := by decide +kernel
theorem dr_cX17_colourCount_37 : decode cX17_colourCount 37 = .ok (.iinc 2 1, 3) := by decide +kernel
theorem dr_cX17_colourCount_40 : decode cX17_colourCount 40 = .ok (.goto (-27), 3) := by decide +kernel
theorem dr_cX17_colourCount_30 : decode cX17_colourCount 30 = .ok (.iconst 1, 1) := by decide +kernel
theorem dr_cX17_colourCount_31 : decode cX17_colourCount 31 = .ok (.goto 4, 3) := by decide +kernel
theorem dr_cX17_count__0 : decode cX17_count_ 0 = .ok (.aload_n 0, 1) := by decide +kernel
theorem dr_cX17_count__1 : decode cX17_count_ 1 = .ok (.iconst 0, 1) := by decide +kernel
theorem dr_cX17_count__2 : decode cX17_count_ 2 = .ok (.putfield 380, 3) := by decide +kernel
theorem dr_cX17_count__5 : decode cX17_count_ 5 = .ok (.iload_n 1, 1) := by decide +kernel
theorem dr_cX17_count__6 : decode cX17_count_ 6 = .ok (.tableswitch 240 0 11 #[62, 81, 100, 105, 110, 115, 134, 150, 166, 182, 198, 219], 62) := by decide +kernel
theorem dr_cX17_count__68 : decode cX17_count_ 68 = .ok (.aload_n 0, 1) := by decide +kernel
theorem dr_cX17_count__69 : decode cX17_count_ 69 = .ok (.getfield 414, 3) := by decide +kernel
theorem dr_cX17_count__72 : decode cX17_count_ 72 = .ok (.ifCond .eq 13, 3) := by decide +kernel
theorem dr_cX17_count__85 : decode cX17_count_ 85 = .ok (.iconst 0, 1) := by decide +kernel
theorem dr_cX17_count__86 : decode cX17_count_ 86 = .ok (.ireturn, 1) := by decide +kernel
theorem dr_cX17_count__75 : decode cX17_count_ 75 = .ok (.aload_n 0, 1) := by decide +kernel
theorem dr_cX17_count__76 : decode cX17_count_ 76 = .ok (.getfield 361, 3) := by decide +kernel
theorem dr_cX17_count__79 : decode cX17_count_ 79 = .ok (.invokevirtual 96, 3) := by decide +kernel
theorem dr_cX17_count__82 : decode cX17_count_ 82 = .ok (.goto 4, 3) := by decide +kernel
theorem dr_cX17_count__87 : decode cX17_count_ 87 = .ok (.aload_n 0, 1) := by decide +kernel
theorem dr_cX17_count__88 : decode cX17_count_ 88 = .ok (.getfield 414, 3) := by decide +kernel
theorem dr_cX17_count__91 : decode cX17_count_ 91 = .ok (.ifCond .eq 13, 3) := by decide +kernel
theorem dr_cX17_count__104 : decode cX17_count_ 104 = .ok (.iconst 0, 1) := by decide +kernel
theorem dr_cX17_count__105 : decode cX17_count_ 105 = .ok (.ireturn, 1) := by decide +kernel
theorem dr_cX17_count__94 : decode cX17_count_ 94 = .ok (.aload_n 0, 1) := by decide +kernel
theorem dr_cX17_count__95 : decode cX17_count_ 95 = .ok (.getfield 361, 3) := by decide +kernel
theorem dr_cX17_count__98 : decode cX17_count_ 98 = .ok (.invokevirtual 234, 3) := by decide +kernel
theorem wr_10_229 : (Jvm.Cond.methodLink "SpillForgeModel" (234 : Nat) ({ cls := "SpillForgeModel$Code", name := "countRows", desc := "()I" } : Jvm.MethodName)) ∈ gw := gw_10 229 rfl rfl
theorem wr_10_232 : (Jvm.Cond.code ({ cls := "SpillForgeModel$Code", name := "countRows", desc := "()I" } : Jvm.MethodName) prog_16_method_7_code (3 : Nat) (Option.some Jvm.ClassFile.FieldType.int)) ∈ gw := gw_10 232 rfl rfl
theorem wr_10_230 : (Jvm.Cond.instanceMethod ({ cls := "SpillForgeModel$Code", name := "countRows", desc := "()I" } : Jvm.MethodName)) ∈ gw := gw_10 230 rfl rfl
theorem wr_10_231 : (Jvm.Cond.selects "SpillForgeModel$Code" ({ cls := "SpillForgeModel$Code", name := "countRows", desc := "()I" } : Jvm.MethodName) ({ cls := "SpillForgeModel$Code", name := "countRows", desc := "()I" } : Jvm.MethodName)) ∈ gw := gw_10 231 rfl rfl
theorem dr_cX17_count__101 : decode cX17_count_ 101 = .ok (.goto 4, 3) := by decide +kernel
theorem dr_cX17_count__106 : decode cX17_count_ 106 = .ok (.aload_n 0, 1) := by decide +kernel
theorem dr_cX17_count__107 : decode cX17_count_ 107 = .ok (.getfield 392, 3) := by decide +kernel
theorem wr_7_107 : (Jvm.Cond.fieldLink "SpillForgeModel" (392 : Nat) "SpillForgeModel" "reason" "I") ∈ gw := gw_7 107 rfl rfl
theorem dr_cX17_count__110 : decode cX17_count_ 110 = .ok (.ireturn, 1) := by decide +kernel
theorem dr_cX17_count__111 : decode cX17_count_ 111 = .ok (.aload_n 0, 1) := by decide +kernel
theorem dr_cX17_count__112 : decode cX17_count_ 112 = .ok (.getfield 383, 3) := by decide +kernel
theorem dr_cX17_count__115 : decode cX17_count_ 115 = .ok (.ireturn, 1) := by decide +kernel
theorem dr_cX17_count__116 : decode cX17_count_ 116 = .ok (.aload_n 0, 1) := by decide +kernel
theorem dr_cX17_count__117 : decode cX17_count_ 117 = .ok (.getfield 426, 3) := by decide +kernel
theorem wr_7_108 : (Jvm.Cond.fieldLink "SpillForgeModel" (426 : Nat) "SpillForgeModel" "results" "I") ∈ gw := gw_7 108 rfl rfl
theorem dr_cX17_count__120 : decode cX17_count_ 120 = .ok (.ireturn, 1) := by decide +kernel
theorem dr_cX17_count__121 : decode cX17_count_ 121 = .ok (.aload_n 0, 1) := by decide +kernel
theorem dr_cX17_count__122 : decode cX17_count_ 122 = .ok (.getfield 416, 3) := by decide +kernel
theorem dr_cX17_count__125 : decode cX17_count_ 125 = .ok (.ifCond .eq 13, 3) := by decide +kernel
theorem dr_cX17_count__138 : decode cX17_count_ 138 = .ok (.iconst 0, 1) := by decide +kernel
theorem dr_cX17_count__139 : decode cX17_count_ 139 = .ok (.ireturn, 1) := by decide +kernel
theorem dr_cX17_count__128 : decode cX17_count_ 128 = .ok (.aload_n 0, 1) := by decide +kernel
theorem dr_cX17_count__129 : decode cX17_count_ 129 = .ok (.getfield 365, 3) := by decide +kernel
theorem dr_cX17_count__132 : decode cX17_count_ 132 = .ok (.invokevirtual 234, 3) := by decide +kernel
theorem dr_cX17_count__135 : decode cX17_count_ 135 = .ok (.goto 4, 3) := by decide +kernel
theorem dr_cX17_count__140 : decode cX17_count_ 140 = .ok (.aload_n 0, 1) := by decide +kernel
theorem dr_cX17_count__141 : decode cX17_count_ 141 = .ok (.getfield 416, 3) := by decide +kernel
theorem dr_cX17_count__144 : decode cX17_count_ 144 = .ok (.ifCond .eq 10, 3) := by decide +kernel
theorem dr_cX17_count__154 : decode cX17_count_ 154 = .ok (.iconst 0, 1) := by decide +kernel
theorem dr_cX17_count__155 : decode cX17_count_ 155 = .ok (.ireturn, 1) := by decide +kernel
theorem dr_cX17_count__147 : decode cX17_count_ 147 = .ok (.aload_n 0, 1) := by decide +kernel
theorem dr_cX17_count__148 : decode cX17_count_ 148 = .ok (.invokevirtual 429, 3) := by decide +kernel
theorem wr_11_75 : (Jvm.Cond.methodLink "SpillForgeModel" (429 : Nat) ({ cls := "SpillForgeModel", name := "colourCount", desc := "()I" } : Jvm.MethodName)) ∈ gw := gw_11 75 rfl rfl
theorem wr_11_78 : (Jvm.Cond.code ({ cls := "SpillForgeModel", name := "colourCount", desc := "()I" } : Jvm.MethodName) prog_14_method_44_code (3 : Nat) (Option.some Jvm.ClassFile.FieldType.int)) ∈ gw := gw_11 78 rfl rfl
theorem wr_11_77 : (Jvm.Cond.instanceMethod ({ cls := "SpillForgeModel", name := "colourCount", desc := "()I" } : Jvm.MethodName)) ∈ gw := gw_11 77 rfl rfl
theorem wr_p_112 : Cond.selects "SpillForgeModel" ⟨"SpillForgeModel", "colourCount", "()I"⟩ ⟨"SpillForgeModel", "colourCount", "()I"⟩ ∈ gw := gw_p _ 112 rfl rfl rfl
theorem dr_cX17_count__151 : decode cX17_count_ 151 = .ok (.goto 4, 3) := by decide +kernel
theorem dr_cX17_count__156 : decode cX17_count_ 156 = .ok (.aload_n 0, 1) := by decide +kernel
theorem dr_cX17_count__157 : decode cX17_count_ 157 = .ok (.getfield 416, 3) := by decide +kernel
theorem dr_cX17_count__160 : decode cX17_count_ 160 = .ok (.ifCond .eq 10, 3) := by decide +kernel
theorem dr_cX17_count__170 : decode cX17_count_ 170 = .ok (.iconst 0, 1) := by decide +kernel
theorem dr_cX17_count__171 : decode cX17_count_ 171 = .ok (.ireturn, 1) := by decide +kernel
theorem dr_cX17_count__163 : decode cX17_count_ 163 = .ok (.aload_n 0, 1) := by decide +kernel
theorem dr_cX17_count__164 : decode cX17_count_ 164 = .ok (.getfield 224, 3) := by decide +kernel
theorem dr_cX17_count__167 : decode cX17_count_ 167 = .ok (.goto 4, 3) := by decide +kernel
theorem dr_cX17_count__172 : decode cX17_count_ 172 = .ok (.aload_n 0, 1) := by decide +kernel
theorem dr_cX17_count__173 : decode cX17_count_ 173 = .ok (.getfield 416, 3) := by decide +kernel
theorem dr_cX17_count__176 : decode cX17_count_ 176 = .ok (.ifCond .eq 10, 3) := by decide +kernel
theorem dr_cX17_count__186 : decode cX17_count_ 186 = .ok (.iconst 0, 1) := by decide +kernel
theorem dr_cX17_count__187 : decode cX17_count_ 187 = .ok (.ireturn, 1) := by decide +kernel
theorem dr_cX17_count__179 : decode cX17_count_ 179 = .ok (.aload_n 0, 1) := by decide +kernel
theorem dr_cX17_count__180 : decode cX17_count_ 180 = .ok (.getfield 237, 3) := by decide +kernel
theorem wr_7_86 : (Jvm.Cond.fieldLink "SpillForgeModel" (237 : Nat) "SpillForgeModel" "spilled" "I") ∈ gw := gw_7 86 rfl rfl
theorem dr_cX17_count__183 : decode cX17_count_ 183 = .ok (.goto 4, 3) := by decide +kernel
theorem dr_cX17_count__188 : decode cX17_count_ 188 = .ok (.aload_n 0, 1) := by decide +kernel
theorem dr_cX17_count__189 : decode cX17_count_ 189 = .ok (.getfield 416, 3) := by decide +kernel
theorem dr_cX17_count__192 : decode cX17_count_ 192 = .ok (.ifCond .eq 10, 3) := by decide +kernel
theorem dr_cX17_count__202 : decode cX17_count_ 202 = .ok (.iconst 0, 1) := by decide +kernel
theorem dr_cX17_count__203 : decode cX17_count_ 203 = .ok (.ireturn, 1) := by decide +kernel
theorem dr_cX17_count__195 : decode cX17_count_ 195 = .ok (.aload_n 0, 1) := by decide +kernel
theorem dr_cX17_count__196 : decode cX17_count_ 196 = .ok (.getfield 195, 3) := by decide +kernel
theorem dr_cX17_count__199 : decode cX17_count_ 199 = .ok (.goto 4, 3) := by decide +kernel
theorem dr_cX17_count__204 : decode cX17_count_ 204 = .ok (.aload_n 0, 1) := by decide +kernel
theorem dr_cX17_count__205 : decode cX17_count_ 205 = .ok (.getfield 416, 3) := by decide +kernel
theorem dr_cX17_count__208 : decode cX17_count_ 208 = .ok (.ifCond .eq 15, 3) := by decide +kernel
theorem dr_cX17_count__223 : decode cX17_count_ 223 = .ok (.iconst 0, 1) := by decide +kernel
theorem dr_cX17_count__224 : decode cX17_count_ 224 = .ok (.ireturn, 1) := by decide +kernel
theorem dr_cX17_count__211 : decode cX17_count_ 211 = .ok (.aload_n 0, 1) := by decide +kernel
theorem dr_cX17_count__212 : decode cX17_count_ 212 = .ok (.getfield 365, 3) := by decide +kernel
theorem dr_cX17_count__215 : decode cX17_count_ 215 = .ok (.bipush 21, 2) := by decide +kernel
theorem dr_cX17_count__217 : decode cX17_count_ 217 = .ok (.invokevirtual 432, 3) := by decide +kernel
theorem wr_11_79 : (Jvm.Cond.methodLink "SpillForgeModel" (432 : Nat) ({ cls := "SpillForgeModel$Code", name := "count", desc := "(I)I" } : Jvm.MethodName)) ∈ gw := gw_11 79 rfl rfl
theorem wr_11_82 : (Jvm.Cond.code ({ cls := "SpillForgeModel$Code", name := "count", desc := "(I)I" } : Jvm.MethodName) prog_16_method_8_code (5 : Nat) (Option.some Jvm.ClassFile.FieldType.int)) ∈ gw := gw_11 82 rfl rfl
theorem wr_11_80 : (Jvm.Cond.instanceMethod ({ cls := "SpillForgeModel$Code", name := "count", desc := "(I)I" } : Jvm.MethodName)) ∈ gw := gw_11 80 rfl rfl
theorem wr_11_81 : (Jvm.Cond.selects "SpillForgeModel$Code" ({ cls := "SpillForgeModel$Code", name := "count", desc := "(I)I" } : Jvm.MethodName) ({ cls := "SpillForgeModel$Code", name := "count", desc := "(I)I" } : Jvm.MethodName)) ∈ gw := gw_11 81 rfl rfl
theorem dr_cX17_count__220 : decode cX17_count_ 220 = .ok (.goto 4, 3) := by decide +kernel
theorem dr_cX17_count__225 : decode cX17_count_ 225 = .ok (.aload_n 0, 1) := by decide +kernel
theorem dr_cX17_count__226 : decode cX17_count_ 226 = .ok (.getfield 416, 3) := by decide +kernel
theorem dr_cX17_count__229 : decode cX17_count_ 229 = .ok (.ifCond .eq 15, 3) := by decide +kernel
theorem dr_cX17_count__244 : decode cX17_count_ 244 = .ok (.iconst 0, 1) := by decide +kernel
theorem dr_cX17_count__245 : decode cX17_count_ 245 = .ok (.ireturn, 1) := by decide +kernel
theorem dr_cX17_count__232 : decode cX17_count_ 232 = .ok (.aload_n 0, 1) := by decide +kernel
theorem dr_cX17_count__233 : decode cX17_count_ 233 = .ok (.getfield 365, 3) := by decide +kernel
theorem dr_cX17_count__236 : decode cX17_count_ 236 = .ok (.bipush 23, 2) := by decide +kernel
theorem dr_cX17_count__238 : decode cX17_count_ 238 = .ok (.invokevirtual 432, 3) := by decide +kernel
theorem dr_cX17_count__241 : decode cX17_count_ 241 = .ok (.goto 4, 3) := by decide +kernel
theorem dr_cX17_count__246 : decode cX17_count_ 246 = .ok (.aload_n 0, 1) := by decide +kernel
theorem dr_cX17_count__247 : decode cX17_count_ 247 = .ok (.iconst 1, 1) := by decide +kernel
theorem dr_cX17_count__248 : decode cX17_count_ 248 = .ok (.invokevirtual 385, 3) := by decide +kernel
theorem dr_cX17_count__251 : decode cX17_count_ 251 = .ok (.ireturn, 1) := by decide +kernel
abbrev ky_586352_SpillForgeModel_colourCount : gKey := (cX17_colourCount, 3, "SpillForgeModel", (some FieldType.int), [], "colourCount", fun _ _ => True)
def pt_586352_SpillForgeModel_colourCount (D : va_G) (I : FieldType → ClassId) (γ el : Nat → Nat → Nat) (P586348 : List Nat) (F586349 : Nat → va_E) (q586350 : Nat) : Option Value → va_W → Nat → Nat → Prop := fun r w dc ds => ∃ (F586604 : Nat → va_E) (o586603 : Int32), r = some (.int o586603) ∧ w = va_pl P586348 F586604 ∧ RS D I P586348 F586604 γ el ∧ rStr γ [] F586349 F586604 ∧ dc ≤ 0 ∧ ds ≤ 0 ∧ (F586604 q586350 = F586349 q586350)
set_option maxRecDepth 100000 in
set_option maxHeartbeats 4000000 in
theorem ct_586352_SpillForgeModel_colourCount (l : Launch) (hl0 : l.stackTraces = false) (D : va_G) (I : FieldType → ClassId) (γ el : Nat → Nat → Nat) (P586348 : List Nat) (F586349 : Nat → va_E) (q586350 : Nat) (hT : RS D I P586348 F586349 γ el) (htq586350 : rKd γ q586350 10) (x586351 : 0 < γ 6 1) : CtA (gV D I) l yX17_colourCount cX17_colourCount 3 (some FieldType.int) 6 141 0 0 [.ref q586350] (va_pl P586348 F586349) (pt_586352_SpillForgeModel_colourCount D I γ el P586348 F586349 q586350) gNA := by
  refine CtA_of hl0 (by decide) (Nat.le_of_ble_eq_true rfl) ?_
  have hm586353 : q586350 ∈ P586348 := RS_m hT htq586350 (by decide)
  refine rk10_e (show rk_10 γ (F586349 q586350) from RS_o hT htq586350) (fun q586355 q586356 p586357 p586358 p586359 p586360 p586361 p586362 p586363 p586364 p586365 p586366 p586367 p586368 p586369 p586370 p586371 he586354 hB586398 ht586372 ht586373 ht586374 ht586375 ht586376 ht586377 ht586378 ht586379 ht586380 ht586381 ht586382 ht586383 ht586384 ht586385 ht586386 ht586387 ht586388 ht586389 ht586390 ht586391 ht586392 ht586393 ht586394 ht586395 hB586399 => ?_)
  have fq586400 : γ 6 (γ 1 (γ 9 6)) = γ 6 0 := by rw [show γ 1 (γ 9 6) = 0 from ht586393]
  have fq586401 : γ 6 (γ 1 (γ 9 7)) = γ 6 1 := by rw [show γ 1 (γ 9 7) = 1 from ht586394]
  have fq586402 : γ 6 (γ 1 (γ 9 8)) = γ 6 2 := by rw [show γ 1 (γ 9 8) = 2 from ht586395]
  have r586403 : p586371.toInt ≤ γ 12 q586356 := by have z := hB586399; unfold rM2 at z; exact z.2.2
  refine G_iconst 0 dr_cX17_colourCount_0 (by decide +kernel) ?_
  refine G_istore_n (L' := [(1, .int 0), (0, .ref q586350)]) dr_cX17_colourCount_1 (Nat.le_of_ble_eq_true rfl) rfl ?_
  refine G_aload_n 1 dr_cX17_colourCount_2 rfl ?_
  refine G_aload_n 1 dr_cX17_colourCount_3 rfl ?_
  refine Gp_get 7 hm586353 he586354 dr_cX17_colourCount_4 (gk_X17 D I) (Nat.le_of_ble_eq_true rfl) wr_7_81 rfl ?_
  refine G_iconst 0 dr_cX17_colourCount_7 (by decide +kernel) ?_
  refine Gw_callV (As := [.ref (γ 9 7), .int 0]) (gV_ok D I) (ct_276998_SpillForgeModel_graph l hl0 D I γ el P586348 F586349 q586350 (γ 9 7) 0 hT htq586350 ht586381 (gB_w (gBl (show Int32.toInt 0 = 0 by decide)) (by decide) (by decide)) (by have qa0 : Int32.toInt 0 = 0 := (by decide); omega)) dr_cX17_colourCount_8 ⟨wr_10_233, wr_1_14, wr_10_236, by decide, rfl, (Nat.le_of_ble_eq_true rfl), (Nat.le_of_ble_eq_true rfl)⟩ wr_10_235 wr_p_99 hm586353 he586354 rfl (show 0 + 0 ≤ 0 by first | omega | decide) (show 0 + 0 ≤ 0 by first | omega | decide) (Nat.le_of_ble_eq_true rfl) (fun r586407 w586408 dc586404 ds586405 hp586406 => ?_) (fun _ _ _ _ _ z => z.elim)
  obtain ⟨F586412, rfl, rfl, hT586413, hs586414, hdc, hds, x586409, x586410, ht586411⟩ := hp586406
  have hs586415 : rStr γ [] F586349 F586412 := rStr_tr (rStr_rf (γ := γ) (W := []) (F := F586349)) hs586414
  have kp586416 : F586412 q586350 = F586349 q586350 := x586410
  have he586417 : F586412 q586350 = .inr (22, [.ref (γ 9 0), .ref (γ 9 1), .ref (γ 9 2), .ref (γ 9 3), .ref (γ 9 4), .ref (γ 9 5), .ref (γ 9 6), .ref (γ 9 7), .ref (γ 9 8), .int p586357, .int p586358, .int p586359, .int p586360, .int p586361, .int p586362, .ref (γ 9 15), .ref (γ 9 16), .ref (γ 9 17), .ref (γ 9 18), .ref (γ 9 19), .ref (γ 9 20), .ref (γ 9 21), .ref (γ 9 22), .int p586363, .int p586364, .int p586365, .int p586366, .int p586367, .ref q586355, .ref (γ 9 29), .int p586368, .ref (γ 9 31), .int p586369, .int p586370, .int p586371, .ref q586356]) := (x586410).trans he586354
  rw [show Int32.toInt 0 = 0 from by decide] at x586409
  change G _ _ _ _ _ _ _ _ _ _ _
  refine G_widen (cs' := 0) (sl' := 0) (by omega) (by omega) ?_
  refine G_iconst 0 dr_cX17_colourCount_11 (by decide +kernel) ?_
  refine G_istore_n (L' := [(2, .int 0), (1, .int 0), (0, .ref q586350)]) dr_cX17_colourCount_12 (Nat.le_of_ble_eq_true rfl) rfl ?_
  have hlp13_586587 : ∀ (n13_586587 : Nat) (g586586 : Int32) (g586587 : Int32), gB g586586 0 2000 → ((2001 : Int) - g586586.toInt).toNat < n13_586587 → G (gV D I) l (gRm 6 141 0 0) (gMA (gV D I) (pt_586352_SpillForgeModel_colourCount D I γ el P586348 F586349 q586350) gNA 0 0) ky_586352_SpillForgeModel_colourCount 13 [(2, .int g586586), (1, .int g586587), (0, .ref q586350)] [] (va_pl P586348 F586412) 0 0 := by
    intro n13_586587
    induction n13_586587 with
    | zero => intro g586586 g586587 bg586586 hm13_586587; exact absurd hm13_586587 (Nat.not_lt_zero _)
    | succ n13_586587 ih13_586587 =>
      intro g586586 g586587 bg586586 hm13_586587
      have bg586587 := gB_any g586587
      refine G_iload_n 0 dr_cX17_colourCount_13 rfl ?_
      refine G_sipush 2000 dr_cX17_colourCount_14 (by decide +kernel) ?_
      refine G_icmp_ge 43 dr_cX17_colourCount_17 (by decide +kernel) (fun hc586589 => ?_) (fun hc586589 => ?_)
      · have r586590 : 2000 ≤ g586586.toInt := gj_leL hc586589 (show Int32.toInt 2000 = 2000 by decide)
        have bg586586' : gB g586586 2000 2000 := ⟨by omega, by omega⟩
        refine G_iload_n 1 dr_cX17_colourCount_43 rfl ?_
        exact G_iretA dr_cX17_colourCount_44 rfl (Nat.le_of_ble_eq_true rfl) (Nat.le_of_ble_eq_true rfl) ⟨F586412, g586587, rfl, rfl, hT586413, hs586415, (Nat.le_of_ble_eq_true rfl), (Nat.le_of_ble_eq_true rfl), kp586416⟩
      · have r586591 : g586586.toInt < 2000 := gj_nleL hc586589 (show Int32.toInt 2000 = 2000 by decide)
        have bg586586' : gB g586586 0 1999 := ⟨by omega, by omega⟩
        refine G_iload_n 1 dr_cX17_colourCount_20 rfl ?_
        refine G_aload_n 2 dr_cX17_colourCount_21 rfl ?_
        refine Gp_get 3 hm586353 he586417 dr_cX17_colourCount_22 (gk_X17 D I) (Nat.le_of_ble_eq_true rfl) wr_7_77 rfl ?_
        refine G_iload_n 0 dr_cX17_colourCount_25 rfl ?_
        have hm586592 : (γ 9 3) ∈ P586348 := RS_m hT586413 ht586377 (by decide)
        obtain ⟨f586594, he586593, bf586594⟩ := show rk_14 I (F586412 (γ 9 3)) from RS_o hT586413 ht586377
        refine Gp_zald 3 hm586592 he586593 dr_cX17_colourCount_26 rfl (gB_in bg586586' (by decide) (by decide)) (G_nam fun z586595 hz586595 => ?_)
        have bz586595 : gB z586595 0 1 := by rw [hz586595]; exact bf586594 _
        refine G_if_eq 34 dr_cX17_colourCount_27 (by decide +kernel) (fun hc586596 => ?_) (fun hc586596 => ?_)
        · have r586597 : z586595.toInt = 0 := gj_eq hc586596 (show Int32.toInt 0 = 0 by decide)
          have bz586595' : gB z586595 0 0 := gB_t0 r586597
          refine G_iconst 0 dr_cX17_colourCount_34 (by decide +kernel) ?_
          refine G_iadd dr_cX17_colourCount_35 (G_nam fun z586598 hz586598 => ?_)
          have ez586598 : z586598.toInt = g586587.toInt + 0 := by rw [gI_add hz586598 bg586587 (gBl (show Int32.toInt 0 = 0 by decide)) (by decide) (by decide), show Int32.toInt 0 = 0 from by decide]
          have bz586598 : gB z586598 (-2147483648) 2147483647 := gB_add (gI_add hz586598 bg586587 (gBl (show Int32.toInt 0 = 0 by decide)) (by decide) (by decide)) bg586587 (gBl (show Int32.toInt 0 = 0 by decide)) (by decide) (by decide)
          refine G_istore_n (L' := [(1, .int z586598), (2, .int g586586), (0, .ref q586350)]) dr_cX17_colourCount_36 (Nat.le_of_ble_eq_true rfl) rfl ?_
          obtain ⟨z586599, hz586599⟩ : ∃ z : Int32, z = g586586 + Int32.ofInt 1 := ⟨_, rfl⟩
          have ez586599 : z586599.toInt = g586586.toInt + 1 := gI_inc hz586599 (by decide) bg586586' (by decide) (by decide)
          have bz586599 : gB z586599 1 2000 := ⟨by omega, by omega⟩
          refine G_iinc (L' := [(2, .int z586599), (1, .int z586598), (0, .ref q586350)]) z586599 1 dr_cX17_colourCount_37 rfl hz586599.symm (Nat.le_of_ble_eq_true rfl) rfl ?_
          refine G_goto 13 dr_cX17_colourCount_40 (by decide +kernel) ?_
          exact ih13_586587 z586599 z586598 (gB_w bz586599 (by decide) (by decide)) (mz_up ez586599 (Int.le_trans bg586586'.2 (by decide)) hm13_586587)
        · have r586600 : z586595.toInt ≠ 0 := gj_neq hc586596 (show Int32.toInt 0 = 0 by decide)
          have bz586595' : gB z586595 1 1 := gB_t1 bz586595 r586600
          refine G_iconst 1 dr_cX17_colourCount_30 (by decide +kernel) ?_
          refine G_goto 35 dr_cX17_colourCount_31 (by decide +kernel) ?_
          refine G_iadd dr_cX17_colourCount_35 (G_nam fun z586601 hz586601 => ?_)
          have bz586601 : gB z586601 (-2147483648) 2147483647 := gB_any z586601
          refine G_istore_n (L' := [(1, .int z586601), (2, .int g586586), (0, .ref q586350)]) dr_cX17_colourCount_36 (Nat.le_of_ble_eq_true rfl) rfl ?_
          obtain ⟨z586602, hz586602⟩ : ∃ z : Int32, z = g586586 + Int32.ofInt 1 := ⟨_, rfl⟩
          have ez586602 : z586602.toInt = g586586.toInt + 1 := gI_inc hz586602 (by decide) bg586586' (by decide) (by decide)
          have bz586602 : gB z586602 1 2000 := ⟨by omega, by omega⟩
          refine G_iinc (L' := [(2, .int z586602), (1, .int z586601), (0, .ref q586350)]) z586602 1 dr_cX17_colourCount_37 rfl hz586602.symm (Nat.le_of_ble_eq_true rfl) rfl ?_
          refine G_goto 13 dr_cX17_colourCount_40 (by decide +kernel) ?_
          exact ih13_586587 z586602 z586601 (gB_w bz586602 (by decide) (by decide)) (mz_up ez586602 (Int.le_trans bg586586'.2 (by decide)) hm13_586587)
  exact hlp13_586587 (((2001 : Int) - 0).toNat + 1) 0 0 (gB_w (gBl (show Int32.toInt 0 = 0 by decide)) (by decide) (by decide)) (Nat.lt_succ_self _)
abbrev ky_586143_SpillForgeModel_count : gKey := (cX17_count_, 2, "SpillForgeModel", (some FieldType.int), [], "count", fun _ _ => True)
def pt_586143_SpillForgeModel_count (D : va_G) (I : FieldType → ClassId) (γ el : Nat → Nat → Nat) (P586137 : List Nat) (F586138 : Nat → va_E) (q586139 : Nat) (p586140 : Int32) : Option Value → va_W → Nat → Nat → Prop := fun r w dc ds => ∃ (F586813 : Nat → va_E) (o586812 : Int32), r = some (.int o586812) ∧ w = va_pl P586137 F586813 ∧ RS D I P586137 F586813 γ el ∧ rStr γ [] F586138 F586813 ∧ dc ≤ 0 ∧ ds ≤ 0 ∧ (fI (F586813 q586139) 9).toInt = (fI (F586138 q586139) 9).toInt ∧ (fI (F586813 q586139) 10).toInt = (fI (F586138 q586139) 10).toInt ∧ (fI (F586813 q586139) 32).toInt = (fI (F586138 q586139) 32).toInt
set_option maxRecDepth 100000 in
set_option maxHeartbeats 4000000 in
theorem ct_586143_SpillForgeModel_count (l : Launch) (hl0 : l.stackTraces = false) (D : va_G) (I : FieldType → ClassId) (γ el : Nat → Nat → Nat) (P586137 : List Nat) (F586138 : Nat → va_E) (q586139 : Nat) (p586140 : Int32) (hT : RS D I P586137 F586138 γ el) (htq586139 : rKd γ q586139 10) (x586141 : ((fI (F586138 q586139) 9).toInt = 0 ∨ 0 < γ 6 0)) (x586142 : ((fI (F586138 q586139) 10).toInt = 0 ∨ 0 < γ 6 1)) : CtA (gV D I) l yX17_count_ cX17_count_ 2 (some FieldType.int) 7 163 0 0 [.ref q586139, .int p586140] (va_pl P586137 F586138) (pt_586143_SpillForgeModel_count D I γ el P586137 F586138 q586139 p586140) gNA := by
  refine CtA_of hl0 (by decide) (Nat.le_of_ble_eq_true rfl) ?_
  have bp586140 := gB_any p586140
  have hm586144 : q586139 ∈ P586137 := RS_m hT htq586139 (by decide)
  refine rk10_e (show rk_10 γ (F586138 q586139) from RS_o hT htq586139) (fun q586146 q586147 p586148 p586149 p586150 p586151 p586152 p586153 p586154 p586155 p586156 p586157 p586158 p586159 p586160 p586161 p586162 he586145 hB586189 ht586163 ht586164 ht586165 ht586166 ht586167 ht586168 ht586169 ht586170 ht586171 ht586172 ht586173 ht586174 ht586175 ht586176 ht586177 ht586178 ht586179 ht586180 ht586181 ht586182 ht586183 ht586184 ht586185 ht586186 hB586190 => ?_)
  have ac586191 : (fI (F586138 q586139) 9).toInt = p586148.toInt := by rw [he586145]; rfl
  have bp586148 : gB p586148 0 1 := (hB586189.1)
  have ac586192 : (fI (F586138 q586139) 10).toInt = p586149.toInt := by rw [he586145]; rfl
  have bp586149 : gB p586149 0 1 := (hB586189.2.1)
  have ac586193 : (fI (F586138 q586139) 32).toInt = p586160.toInt := by rw [he586145]; rfl
  have bp586160 : gB p586160 0 8192 := (hB586189.2.2.2.2.2.2.2.1)
  have fq586194 : γ 6 (γ 1 (γ 9 6)) = γ 6 0 := by rw [show γ 1 (γ 9 6) = 0 from ht586184]
  have fq586195 : γ 6 (γ 1 (γ 9 7)) = γ 6 1 := by rw [show γ 1 (γ 9 7) = 1 from ht586185]
  have fq586196 : γ 6 (γ 1 (γ 9 8)) = γ 6 2 := by rw [show γ 1 (γ 9 8) = 2 from ht586186]
  have r586197 : p586162.toInt ≤ γ 12 q586147 := by have z := hB586190; unfold rM2 at z; exact z.2.2
  refine G_aload_n 0 dr_cX17_count__0 rfl ?_
  refine G_iconst 0 dr_cX17_count__1 (by decide +kernel) ?_
  refine Gp_put 30 hm586144 he586145 dr_cX17_count__2 (gk_X17 D I) (Nat.le_of_ble_eq_true rfl) wr_7_104 rfl rfl rfl (Nat.le_of_ble_eq_true rfl) (fun F586198 e586199 n586200 => ?_)
  have he586201 : F586198 q586139 = .inr (22, [.ref (γ 9 0), .ref (γ 9 1), .ref (γ 9 2), .ref (γ 9 3), .ref (γ 9 4), .ref (γ 9 5), .ref (γ 9 6), .ref (γ 9 7), .ref (γ 9 8), .int p586148, .int p586149, .int p586150, .int p586151, .int p586152, .int p586153, .ref (γ 9 15), .ref (γ 9 16), .ref (γ 9 17), .ref (γ 9 18), .ref (γ 9 19), .ref (γ 9 20), .ref (γ 9 21), .ref (γ 9 22), .int p586154, .int p586155, .int p586156, .int p586157, .int p586158, .ref q586146, .ref (γ 9 29), .int 0, .ref (γ 9 31), .int p586160, .int p586161, .int p586162, .ref q586147]) := e586199
  have hs586202 : rStr γ [] F586138 F586198 := rStr_put (rStr_rf (γ := γ) (W := []) (F := F586138)) n586200 htq586139 (by decide)
  refine G_iload_n 1 dr_cX17_count__5 rfl ?_
  by_cases hs586203 : p586140 = 0
  · have ehs586203 : p586140.toInt = 0 := gj_eq hs586203 (show Int32.toInt 0 = 0 by decide)
    have bp586140' : gB p586140 0 0 := ⟨by omega, by omega⟩
    refine G_eqi (y := 0) hs586203 ?_
    refine G_tableIn 68 dr_cX17_count__6 (by decide) (by decide) (by first | rfl | decide) (by decide) ?_
    refine G_aload_n 0 dr_cX17_count__68 rfl ?_
    refine Gp_get 9 hm586144 he586201 dr_cX17_count__69 (gk_X17 D I) (Nat.le_of_ble_eq_true rfl) wr_7_83 rfl ?_
    refine G_if_eq 85 dr_cX17_count__72 (by decide +kernel) (fun hc586204 => ?_) (fun hc586204 => ?_)
    · have r586205 : p586148.toInt = 0 := gj_eq hc586204 (show Int32.toInt 0 = 0 by decide)
      have bp586148' : gB p586148 0 0 := gB_t0 r586205
      refine G_iconst 0 dr_cX17_count__85 (by decide +kernel) ?_
      have hT586206 : RS D I P586137 F586198 γ el := RS_set hT n586200 htq586139 (by decide) ⟨q586146, q586147, p586148, p586149, p586150, p586151, p586152, p586153, p586154, p586155, p586156, p586157, p586158, 0, p586160, p586161, p586162, he586201, ⟨(gB_w bp586148' (by decide) (by decide)), bp586149, (hB586189.2.2.1), (hB586189.2.2.2.1), (hB586189.2.2.2.2.1), (hB586189.2.2.2.2.2.1), (hB586189.2.2.2.2.2.2.1), bp586160, (hB586189.2.2.2.2.2.2.2.2)⟩, ht586163, ht586164, ht586165, ht586166, ht586167, ht586168, ht586169, ht586170, ht586171, ht586172, ht586173, ht586174, ht586175, ht586176, ht586177, ht586178, ht586179, ht586180, ht586181, ht586182, ht586183, ht586184, ht586185, ht586186, hB586190⟩
      have ac586207 : (fI (F586198 q586139) 9).toInt = p586148.toInt := by rw [he586201]; rfl
      have ac586208 : (fI (F586198 q586139) 10).toInt = p586149.toInt := by rw [he586201]; rfl
      have ac586209 : (fI (F586198 q586139) 32).toInt = p586160.toInt := by rw [he586201]; rfl
      exact G_iretA dr_cX17_count__86 rfl (Nat.le_of_ble_eq_true rfl) (Nat.le_of_ble_eq_true rfl) ⟨F586198, 0, rfl, rfl, hT586206, hs586202, (Nat.le_of_ble_eq_true rfl), (Nat.le_of_ble_eq_true rfl), (by have qa0 : Int32.toInt 0 = 0 := (by decide); omega), (by have qa0 : Int32.toInt 0 = 0 := (by decide); omega), (by have qa0 : Int32.toInt 0 = 0 := (by decide); omega)⟩
    · have r586210 : p586148.toInt ≠ 0 := gj_neq hc586204 (show Int32.toInt 0 = 0 by decide)
      have bp586148' : gB p586148 1 1 := gB_t1 bp586148 r586210
      refine G_aload_n 0 dr_cX17_count__75 rfl ?_
      refine Gp_get 6 hm586144 he586201 dr_cX17_count__76 (gk_X17 D I) (Nat.le_of_ble_eq_true rfl) wr_7_80 rfl ?_
      have hT586211 : RS D I P586137 F586198 γ el := RS_set hT n586200 htq586139 (by decide) ⟨q586146, q586147, p586148, p586149, p586150, p586151, p586152, p586153, p586154, p586155, p586156, p586157, p586158, 0, p586160, p586161, p586162, he586201, ⟨(gB_w bp586148' (by decide) (by decide)), bp586149, (hB586189.2.2.1), (hB586189.2.2.2.1), (hB586189.2.2.2.2.1), (hB586189.2.2.2.2.2.1), (hB586189.2.2.2.2.2.2.1), bp586160, (hB586189.2.2.2.2.2.2.2.2)⟩, ht586163, ht586164, ht586165, ht586166, ht586167, ht586168, ht586169, ht586170, ht586171, ht586172, ht586173, ht586174, ht586175, ht586176, ht586177, ht586178, ht586179, ht586180, ht586181, ht586182, ht586183, ht586184, ht586185, ht586186, hB586190⟩
      have hm586212 : (γ 9 6) ∈ P586137 := RS_m hT586211 ht586171 (by decide)
      obtain ⟨q586214, q586215, p586216, p586217, he586213, ht586233, ht586218, ht586219, ht586220, ht586221, r586222, r586223, r586224, r586225, r586226, r586227, r586228, r586229, r586230, r586231, r586232⟩ := show rk_9 γ el (γ 9 6) (F586198 (γ 9 6)) from RS_o hT586211 ht586171
      have bp586216 : gB p586216 0 1000000 := ⟨by omega, by omega⟩
      have bp586217 : gB p586217 0 1000000 := ⟨by omega, by omega⟩
      refine Gw_callV (As := []) (gV_ok D I) (cp_12780_Code_size l hl0 D I P586137 F586198 (γ 9 6) q586214 q586215 p586216 p586217 hm586212 he586213) dr_cX17_count__79 ⟨wr_10_160, wr_1_15, wr_9_131, by decide, rfl, (Nat.le_of_ble_eq_true rfl), (Nat.le_of_ble_eq_true rfl)⟩ wr_9_129 wr_9_130 hm586212 he586213 rfl (show 0 + 0 ≤ 0 by first | omega | decide) (show 0 + 0 ≤ 0 by first | omega | decide) (Nat.le_of_ble_eq_true rfl) (fun r586237 w586238 dc586234 ds586235 hp586236 => ?_) (fun _ _ _ _ _ z => z.elim)
      obtain ⟨rfl, rfl, hdc, hds⟩ := hp586236
      change G _ _ _ _ _ _ _ (.int p586217 :: _) _ _ _
      refine G_widen (cs' := 0) (sl' := 0) (by omega) (by omega) ?_
      refine G_goto 86 dr_cX17_count__82 (by decide +kernel) ?_
      have ac586239 : (fI (F586198 q586139) 9).toInt = p586148.toInt := by rw [he586201]; rfl
      have ac586240 : (fI (F586198 q586139) 10).toInt = p586149.toInt := by rw [he586201]; rfl
      have ac586241 : (fI (F586198 q586139) 32).toInt = p586160.toInt := by rw [he586201]; rfl
      exact G_iretA dr_cX17_count__86 rfl (Nat.le_of_ble_eq_true rfl) (Nat.le_of_ble_eq_true rfl) ⟨F586198, p586217, rfl, rfl, hT586211, hs586202, (Nat.le_of_ble_eq_true rfl), (Nat.le_of_ble_eq_true rfl), (by omega), (by omega), (by omega)⟩
  by_cases hs586242 : p586140 = 1
  · have ehs586242 : p586140.toInt = 1 := gj_eq hs586242 (show Int32.toInt 1 = 1 by decide)
    have bp586140' : gB p586140 1 1 := ⟨by omega, by omega⟩
    refine G_eqi (y := 1) hs586242 ?_
    refine G_tableIn 87 dr_cX17_count__6 (by decide) (by decide) (by first | rfl | decide) (by decide) ?_
    refine G_aload_n 0 dr_cX17_count__87 rfl ?_
    refine Gp_get 9 hm586144 he586201 dr_cX17_count__88 (gk_X17 D I) (Nat.le_of_ble_eq_true rfl) wr_7_83 rfl ?_
    refine G_if_eq 104 dr_cX17_count__91 (by decide +kernel) (fun hc586243 => ?_) (fun hc586243 => ?_)
    · have r586244 : p586148.toInt = 0 := gj_eq hc586243 (show Int32.toInt 0 = 0 by decide)
      have bp586148' : gB p586148 0 0 := gB_t0 r586244
      refine G_iconst 0 dr_cX17_count__104 (by decide +kernel) ?_
      have hT586245 : RS D I P586137 F586198 γ el := RS_set hT n586200 htq586139 (by decide) ⟨q586146, q586147, p586148, p586149, p586150, p586151, p586152, p586153, p586154, p586155, p586156, p586157, p586158, 0, p586160, p586161, p586162, he586201, ⟨(gB_w bp586148' (by decide) (by decide)), bp586149, (hB586189.2.2.1), (hB586189.2.2.2.1), (hB586189.2.2.2.2.1), (hB586189.2.2.2.2.2.1), (hB586189.2.2.2.2.2.2.1), bp586160, (hB586189.2.2.2.2.2.2.2.2)⟩, ht586163, ht586164, ht586165, ht586166, ht586167, ht586168, ht586169, ht586170, ht586171, ht586172, ht586173, ht586174, ht586175, ht586176, ht586177, ht586178, ht586179, ht586180, ht586181, ht586182, ht586183, ht586184, ht586185, ht586186, hB586190⟩
      have ac586246 : (fI (F586198 q586139) 9).toInt = p586148.toInt := by rw [he586201]; rfl
      have ac586247 : (fI (F586198 q586139) 10).toInt = p586149.toInt := by rw [he586201]; rfl
      have ac586248 : (fI (F586198 q586139) 32).toInt = p586160.toInt := by rw [he586201]; rfl
      exact G_iretA dr_cX17_count__105 rfl (Nat.le_of_ble_eq_true rfl) (Nat.le_of_ble_eq_true rfl) ⟨F586198, 0, rfl, rfl, hT586245, hs586202, (Nat.le_of_ble_eq_true rfl), (Nat.le_of_ble_eq_true rfl), (by have qa0 : Int32.toInt 0 = 0 := (by decide); omega), (by have qa0 : Int32.toInt 0 = 0 := (by decide); omega), (by have qa0 : Int32.toInt 0 = 0 := (by decide); omega)⟩
    · have r586249 : p586148.toInt ≠ 0 := gj_neq hc586243 (show Int32.toInt 0 = 0 by decide)
      have bp586148' : gB p586148 1 1 := gB_t1 bp586148 r586249
      refine G_aload_n 0 dr_cX17_count__94 rfl ?_
      refine Gp_get 6 hm586144 he586201 dr_cX17_count__95 (gk_X17 D I) (Nat.le_of_ble_eq_true rfl) wr_7_80 rfl ?_
      have hT586250 : RS D I P586137 F586198 γ el := RS_set hT n586200 htq586139 (by decide) ⟨q586146, q586147, p586148, p586149, p586150, p586151, p586152, p586153, p586154, p586155, p586156, p586157, p586158, 0, p586160, p586161, p586162, he586201, ⟨(gB_w bp586148' (by decide) (by decide)), bp586149, (hB586189.2.2.1), (hB586189.2.2.2.1), (hB586189.2.2.2.2.1), (hB586189.2.2.2.2.2.1), (hB586189.2.2.2.2.2.2.1), bp586160, (hB586189.2.2.2.2.2.2.2.2)⟩, ht586163, ht586164, ht586165, ht586166, ht586167, ht586168, ht586169, ht586170, ht586171, ht586172, ht586173, ht586174, ht586175, ht586176, ht586177, ht586178, ht586179, ht586180, ht586181, ht586182, ht586183, ht586184, ht586185, ht586186, hB586190⟩
      have hm586256 : (γ 9 6) ∈ P586137 := RS_m hT586250 ht586171 (by decide)
      obtain ⟨q586258, q586259, p586260, p586261, he586257, ht586277, ht586262, ht586263, ht586264, ht586265, r586266, r586267, r586268, r586269, r586270, r586271, r586272, r586273, r586274, r586275, r586276⟩ := show rk_9 γ el (γ 9 6) (F586198 (γ 9 6)) from RS_o hT586250 ht586171
      have bp586260 : gB p586260 0 1000000 := ⟨by omega, by omega⟩
      have bp586261 : gB p586261 0 1000000 := ⟨by omega, by omega⟩
      refine Gw_callV (As := []) (gV_ok D I) (ct_7810_Code_countRows l hl0 D I γ el P586137 F586198 (γ 9 6) hT586250 ht586171 (by have qa0 : Int32.toInt 0 = 0 := (by decide); omega)) dr_cX17_count__98 ⟨wr_10_229, wr_1_15, wr_10_232, by decide, rfl, (Nat.le_of_ble_eq_true rfl), (Nat.le_of_ble_eq_true rfl)⟩ wr_10_230 wr_10_231 hm586256 he586257 rfl (show 0 + 0 ≤ 0 by first | omega | decide) (show 0 + 0 ≤ 0 by first | omega | decide) (Nat.le_of_ble_eq_true rfl) (fun r586254 w586255 dc586251 ds586252 hp586253 => ?_) (fun _ _ _ _ _ z => z.elim)
      obtain ⟨o586278, rfl, rfl, hdc, hds, ht586279⟩ := hp586253
      have bo586278 := gB_any o586278
      change G _ _ _ _ _ _ _ (.int o586278 :: _) _ _ _
      refine G_widen (cs' := 0) (sl' := 0) (by omega) (by omega) ?_
      refine G_goto 105 dr_cX17_count__101 (by decide +kernel) ?_
      have ac586280 : (fI (F586198 q586139) 9).toInt = p586148.toInt := by rw [he586201]; rfl
      have ac586281 : (fI (F586198 q586139) 10).toInt = p586149.toInt := by rw [he586201]; rfl
      have ac586282 : (fI (F586198 q586139) 32).toInt = p586160.toInt := by rw [he586201]; rfl
      exact G_iretA dr_cX17_count__105 rfl (Nat.le_of_ble_eq_true rfl) (Nat.le_of_ble_eq_true rfl) ⟨F586198, o586278, rfl, rfl, hT586250, hs586202, (Nat.le_of_ble_eq_true rfl), (Nat.le_of_ble_eq_true rfl), (by omega), (by omega), (by omega)⟩
  by_cases hs586283 : p586140 = 2
  · have ehs586283 : p586140.toInt = 2 := gj_eq hs586283 (show Int32.toInt 2 = 2 by decide)
    have bp586140' : gB p586140 2 2 := ⟨by omega, by omega⟩
    refine G_eqi (y := 2) hs586283 ?_
    refine G_tableIn 106 dr_cX17_count__6 (by decide) (by decide) (by first | rfl | decide) (by decide) ?_
    refine G_aload_n 0 dr_cX17_count__106 rfl ?_
    refine Gp_get 33 hm586144 he586201 dr_cX17_count__107 (gk_X17 D I) (Nat.le_of_ble_eq_true rfl) wr_7_107 rfl ?_
    have bp586161 : gB p586161 (-2147483648) 2147483647 := (gB_any p586161)
    have hT586284 : RS D I P586137 F586198 γ el := RS_set hT n586200 htq586139 (by decide) ⟨q586146, q586147, p586148, p586149, p586150, p586151, p586152, p586153, p586154, p586155, p586156, p586157, p586158, 0, p586160, p586161, p586162, he586201, ⟨bp586148, bp586149, (hB586189.2.2.1), (hB586189.2.2.2.1), (hB586189.2.2.2.2.1), (hB586189.2.2.2.2.2.1), (hB586189.2.2.2.2.2.2.1), bp586160, (hB586189.2.2.2.2.2.2.2.2)⟩, ht586163, ht586164, ht586165, ht586166, ht586167, ht586168, ht586169, ht586170, ht586171, ht586172, ht586173, ht586174, ht586175, ht586176, ht586177, ht586178, ht586179, ht586180, ht586181, ht586182, ht586183, ht586184, ht586185, ht586186, hB586190⟩
    have ac586285 : (fI (F586198 q586139) 9).toInt = p586148.toInt := by rw [he586201]; rfl
    have ac586286 : (fI (F586198 q586139) 10).toInt = p586149.toInt := by rw [he586201]; rfl
    have ac586287 : (fI (F586198 q586139) 32).toInt = p586160.toInt := by rw [he586201]; rfl
    exact G_iretA dr_cX17_count__110 rfl (Nat.le_of_ble_eq_true rfl) (Nat.le_of_ble_eq_true rfl) ⟨F586198, p586161, rfl, rfl, hT586284, hs586202, (Nat.le_of_ble_eq_true rfl), (Nat.le_of_ble_eq_true rfl), (by omega), (by omega), (by omega)⟩
  by_cases hs586288 : p586140 = 3
  · have ehs586288 : p586140.toInt = 3 := gj_eq hs586288 (show Int32.toInt 3 = 3 by decide)
    have bp586140' : gB p586140 3 3 := ⟨by omega, by omega⟩
    refine G_eqi (y := 3) hs586288 ?_
    refine G_tableIn 111 dr_cX17_count__6 (by decide) (by decide) (by first | rfl | decide) (by decide) ?_
    refine G_aload_n 0 dr_cX17_count__111 rfl ?_
    refine Gp_get 32 hm586144 he586201 dr_cX17_count__112 (gk_X17 D I) (Nat.le_of_ble_eq_true rfl) wr_7_106 rfl ?_
    have hT586289 : RS D I P586137 F586198 γ el := RS_set hT n586200 htq586139 (by decide) ⟨q586146, q586147, p586148, p586149, p586150, p586151, p586152, p586153, p586154, p586155, p586156, p586157, p586158, 0, p586160, p586161, p586162, he586201, ⟨bp586148, bp586149, (hB586189.2.2.1), (hB586189.2.2.2.1), (hB586189.2.2.2.2.1), (hB586189.2.2.2.2.2.1), (hB586189.2.2.2.2.2.2.1), bp586160, (hB586189.2.2.2.2.2.2.2.2)⟩, ht586163, ht586164, ht586165, ht586166, ht586167, ht586168, ht586169, ht586170, ht586171, ht586172, ht586173, ht586174, ht586175, ht586176, ht586177, ht586178, ht586179, ht586180, ht586181, ht586182, ht586183, ht586184, ht586185, ht586186, hB586190⟩
    have ac586290 : (fI (F586198 q586139) 9).toInt = p586148.toInt := by rw [he586201]; rfl
    have ac586291 : (fI (F586198 q586139) 10).toInt = p586149.toInt := by rw [he586201]; rfl
    have ac586292 : (fI (F586198 q586139) 32).toInt = p586160.toInt := by rw [he586201]; rfl
    exact G_iretA dr_cX17_count__115 rfl (Nat.le_of_ble_eq_true rfl) (Nat.le_of_ble_eq_true rfl) ⟨F586198, p586160, rfl, rfl, hT586289, hs586202, (Nat.le_of_ble_eq_true rfl), (Nat.le_of_ble_eq_true rfl), (by omega), (by omega), (by omega)⟩
  by_cases hs586293 : p586140 = 4
  · have ehs586293 : p586140.toInt = 4 := gj_eq hs586293 (show Int32.toInt 4 = 4 by decide)
    have bp586140' : gB p586140 4 4 := ⟨by omega, by omega⟩
    refine G_eqi (y := 4) hs586293 ?_
    refine G_tableIn 116 dr_cX17_count__6 (by decide) (by decide) (by first | rfl | decide) (by decide) ?_
    refine G_aload_n 0 dr_cX17_count__116 rfl ?_
    refine Gp_get 34 hm586144 he586201 dr_cX17_count__117 (gk_X17 D I) (Nat.le_of_ble_eq_true rfl) wr_7_108 rfl ?_
    have bp586162 : gB p586162 0 16777216 := (hB586189.2.2.2.2.2.2.2.2)
    have hT586294 : RS D I P586137 F586198 γ el := RS_set hT n586200 htq586139 (by decide) ⟨q586146, q586147, p586148, p586149, p586150, p586151, p586152, p586153, p586154, p586155, p586156, p586157, p586158, 0, p586160, p586161, p586162, he586201, ⟨bp586148, bp586149, (hB586189.2.2.1), (hB586189.2.2.2.1), (hB586189.2.2.2.2.1), (hB586189.2.2.2.2.2.1), (hB586189.2.2.2.2.2.2.1), bp586160, bp586162⟩, ht586163, ht586164, ht586165, ht586166, ht586167, ht586168, ht586169, ht586170, ht586171, ht586172, ht586173, ht586174, ht586175, ht586176, ht586177, ht586178, ht586179, ht586180, ht586181, ht586182, ht586183, ht586184, ht586185, ht586186, hB586190⟩
    have ac586295 : (fI (F586198 q586139) 9).toInt = p586148.toInt := by rw [he586201]; rfl
    have ac586296 : (fI (F586198 q586139) 10).toInt = p586149.toInt := by rw [he586201]; rfl
    have ac586297 : (fI (F586198 q586139) 32).toInt = p586160.toInt := by rw [he586201]; rfl
    exact G_iretA dr_cX17_count__120 rfl (Nat.le_of_ble_eq_true rfl) (Nat.le_of_ble_eq_true rfl) ⟨F586198, p586162, rfl, rfl, hT586294, hs586202, (Nat.le_of_ble_eq_true rfl), (Nat.le_of_ble_eq_true rfl), (by omega), (by omega), (by omega)⟩
  by_cases hs586298 : p586140 = 5
  · have ehs586298 : p586140.toInt = 5 := gj_eq hs586298 (show Int32.toInt 5 = 5 by decide)
    have bp586140' : gB p586140 5 5 := ⟨by omega, by omega⟩
    refine G_eqi (y := 5) hs586298 ?_
    refine G_tableIn 121 dr_cX17_count__6 (by decide) (by decide) (by first | rfl | decide) (by decide) ?_
    refine G_aload_n 0 dr_cX17_count__121 rfl ?_
    refine Gp_get 10 hm586144 he586201 dr_cX17_count__122 (gk_X17 D I) (Nat.le_of_ble_eq_true rfl) wr_7_84 rfl ?_
    refine G_if_eq 138 dr_cX17_count__125 (by decide +kernel) (fun hc586299 => ?_) (fun hc586299 => ?_)
    · have r586300 : p586149.toInt = 0 := gj_eq hc586299 (show Int32.toInt 0 = 0 by decide)
      have bp586149' : gB p586149 0 0 := gB_t0 r586300
      refine G_iconst 0 dr_cX17_count__138 (by decide +kernel) ?_
      have hT586301 : RS D I P586137 F586198 γ el := RS_set hT n586200 htq586139 (by decide) ⟨q586146, q586147, p586148, p586149, p586150, p586151, p586152, p586153, p586154, p586155, p586156, p586157, p586158, 0, p586160, p586161, p586162, he586201, ⟨bp586148, (gB_w bp586149' (by decide) (by decide)), (hB586189.2.2.1), (hB586189.2.2.2.1), (hB586189.2.2.2.2.1), (hB586189.2.2.2.2.2.1), (hB586189.2.2.2.2.2.2.1), bp586160, (hB586189.2.2.2.2.2.2.2.2)⟩, ht586163, ht586164, ht586165, ht586166, ht586167, ht586168, ht586169, ht586170, ht586171, ht586172, ht586173, ht586174, ht586175, ht586176, ht586177, ht586178, ht586179, ht586180, ht586181, ht586182, ht586183, ht586184, ht586185, ht586186, hB586190⟩
      have ac586302 : (fI (F586198 q586139) 9).toInt = p586148.toInt := by rw [he586201]; rfl
      have ac586303 : (fI (F586198 q586139) 10).toInt = p586149.toInt := by rw [he586201]; rfl
      have ac586304 : (fI (F586198 q586139) 32).toInt = p586160.toInt := by rw [he586201]; rfl
      exact G_iretA dr_cX17_count__139 rfl (Nat.le_of_ble_eq_true rfl) (Nat.le_of_ble_eq_true rfl) ⟨F586198, 0, rfl, rfl, hT586301, hs586202, (Nat.le_of_ble_eq_true rfl), (Nat.le_of_ble_eq_true rfl), (by have qa0 : Int32.toInt 0 = 0 := (by decide); omega), (by have qa0 : Int32.toInt 0 = 0 := (by decide); omega), (by have qa0 : Int32.toInt 0 = 0 := (by decide); omega)⟩
    · have r586305 : p586149.toInt ≠ 0 := gj_neq hc586299 (show Int32.toInt 0 = 0 by decide)
      have bp586149' : gB p586149 1 1 := gB_t1 bp586149 r586305
      refine G_aload_n 0 dr_cX17_count__128 rfl ?_
      refine Gp_get 7 hm586144 he586201 dr_cX17_count__129 (gk_X17 D I) (Nat.le_of_ble_eq_true rfl) wr_7_81 rfl ?_
      have hT586306 : RS D I P586137 F586198 γ el := RS_set hT n586200 htq586139 (by decide) ⟨q586146, q586147, p586148, p586149, p586150, p586151, p586152, p586153, p586154, p586155, p586156, p586157, p586158, 0, p586160, p586161, p586162, he586201, ⟨bp586148, (gB_w bp586149' (by decide) (by decide)), (hB586189.2.2.1), (hB586189.2.2.2.1), (hB586189.2.2.2.2.1), (hB586189.2.2.2.2.2.1), (hB586189.2.2.2.2.2.2.1), bp586160, (hB586189.2.2.2.2.2.2.2.2)⟩, ht586163, ht586164, ht586165, ht586166, ht586167, ht586168, ht586169, ht586170, ht586171, ht586172, ht586173, ht586174, ht586175, ht586176, ht586177, ht586178, ht586179, ht586180, ht586181, ht586182, ht586183, ht586184, ht586185, ht586186, hB586190⟩
      have hm586312 : (γ 9 7) ∈ P586137 := RS_m hT586306 ht586172 (by decide)
      obtain ⟨q586314, q586315, p586316, p586317, he586313, ht586333, ht586318, ht586319, ht586320, ht586321, r586322, r586323, r586324, r586325, r586326, r586327, r586328, r586329, r586330, r586331, r586332⟩ := show rk_9 γ el (γ 9 7) (F586198 (γ 9 7)) from RS_o hT586306 ht586172
      have bp586316 : gB p586316 0 1000000 := ⟨by omega, by omega⟩
      have bp586317 : gB p586317 0 1000000 := ⟨by omega, by omega⟩
      refine Gw_callV (As := []) (gV_ok D I) (ct_7810_Code_countRows l hl0 D I γ el P586137 F586198 (γ 9 7) hT586306 ht586172 (by have qa0 : Int32.toInt 0 = 0 := (by decide); omega)) dr_cX17_count__132 ⟨wr_10_229, wr_1_15, wr_10_232, by decide, rfl, (Nat.le_of_ble_eq_true rfl), (Nat.le_of_ble_eq_true rfl)⟩ wr_10_230 wr_10_231 hm586312 he586313 rfl (show 0 + 0 ≤ 0 by first | omega | decide) (show 0 + 0 ≤ 0 by first | omega | decide) (Nat.le_of_ble_eq_true rfl) (fun r586310 w586311 dc586307 ds586308 hp586309 => ?_) (fun _ _ _ _ _ z => z.elim)
      obtain ⟨o586334, rfl, rfl, hdc, hds, ht586335⟩ := hp586309
      have bo586334 := gB_any o586334
      change G _ _ _ _ _ _ _ (.int o586334 :: _) _ _ _
      refine G_widen (cs' := 0) (sl' := 0) (by omega) (by omega) ?_
      refine G_goto 139 dr_cX17_count__135 (by decide +kernel) ?_
      have ac586336 : (fI (F586198 q586139) 9).toInt = p586148.toInt := by rw [he586201]; rfl
      have ac586337 : (fI (F586198 q586139) 10).toInt = p586149.toInt := by rw [he586201]; rfl
      have ac586338 : (fI (F586198 q586139) 32).toInt = p586160.toInt := by rw [he586201]; rfl
      exact G_iretA dr_cX17_count__139 rfl (Nat.le_of_ble_eq_true rfl) (Nat.le_of_ble_eq_true rfl) ⟨F586198, o586334, rfl, rfl, hT586306, hs586202, (Nat.le_of_ble_eq_true rfl), (Nat.le_of_ble_eq_true rfl), (by omega), (by omega), (by omega)⟩
  by_cases hs586339 : p586140 = 6
  · have ehs586339 : p586140.toInt = 6 := gj_eq hs586339 (show Int32.toInt 6 = 6 by decide)
    have bp586140' : gB p586140 6 6 := ⟨by omega, by omega⟩
    refine G_eqi (y := 6) hs586339 ?_
    refine G_tableIn 140 dr_cX17_count__6 (by decide) (by decide) (by first | rfl | decide) (by decide) ?_
    refine G_aload_n 0 dr_cX17_count__140 rfl ?_
    refine Gp_get 10 hm586144 he586201 dr_cX17_count__141 (gk_X17 D I) (Nat.le_of_ble_eq_true rfl) wr_7_84 rfl ?_
    refine G_if_eq 154 dr_cX17_count__144 (by decide +kernel) (fun hc586340 => ?_) (fun hc586340 => ?_)
    · have r586341 : p586149.toInt = 0 := gj_eq hc586340 (show Int32.toInt 0 = 0 by decide)
      have bp586149' : gB p586149 0 0 := gB_t0 r586341
      refine G_iconst 0 dr_cX17_count__154 (by decide +kernel) ?_
      have hT586342 : RS D I P586137 F586198 γ el := RS_set hT n586200 htq586139 (by decide) ⟨q586146, q586147, p586148, p586149, p586150, p586151, p586152, p586153, p586154, p586155, p586156, p586157, p586158, 0, p586160, p586161, p586162, he586201, ⟨bp586148, (gB_w bp586149' (by decide) (by decide)), (hB586189.2.2.1), (hB586189.2.2.2.1), (hB586189.2.2.2.2.1), (hB586189.2.2.2.2.2.1), (hB586189.2.2.2.2.2.2.1), bp586160, (hB586189.2.2.2.2.2.2.2.2)⟩, ht586163, ht586164, ht586165, ht586166, ht586167, ht586168, ht586169, ht586170, ht586171, ht586172, ht586173, ht586174, ht586175, ht586176, ht586177, ht586178, ht586179, ht586180, ht586181, ht586182, ht586183, ht586184, ht586185, ht586186, hB586190⟩
      have ac586343 : (fI (F586198 q586139) 9).toInt = p586148.toInt := by rw [he586201]; rfl
      have ac586344 : (fI (F586198 q586139) 10).toInt = p586149.toInt := by rw [he586201]; rfl
      have ac586345 : (fI (F586198 q586139) 32).toInt = p586160.toInt := by rw [he586201]; rfl
      exact G_iretA dr_cX17_count__155 rfl (Nat.le_of_ble_eq_true rfl) (Nat.le_of_ble_eq_true rfl) ⟨F586198, 0, rfl, rfl, hT586342, hs586202, (Nat.le_of_ble_eq_true rfl), (Nat.le_of_ble_eq_true rfl), (by have qa0 : Int32.toInt 0 = 0 := (by decide); omega), (by have qa0 : Int32.toInt 0 = 0 := (by decide); omega), (by have qa0 : Int32.toInt 0 = 0 := (by decide); omega)⟩
    · have r586346 : p586149.toInt ≠ 0 := gj_neq hc586340 (show Int32.toInt 0 = 0 by decide)
      have bp586149' : gB p586149 1 1 := gB_t1 bp586149 r586346
      refine G_aload_n 0 dr_cX17_count__147 rfl ?_
      have hT586347 : RS D I P586137 F586198 γ el := RS_set hT n586200 htq586139 (by decide) ⟨q586146, q586147, p586148, p586149, p586150, p586151, p586152, p586153, p586154, p586155, p586156, p586157, p586158, 0, p586160, p586161, p586162, he586201, ⟨bp586148, (gB_w bp586149' (by decide) (by decide)), (hB586189.2.2.1), (hB586189.2.2.2.1), (hB586189.2.2.2.2.1), (hB586189.2.2.2.2.2.1), (hB586189.2.2.2.2.2.2.1), bp586160, (hB586189.2.2.2.2.2.2.2.2)⟩, ht586163, ht586164, ht586165, ht586166, ht586167, ht586168, ht586169, ht586170, ht586171, ht586172, ht586173, ht586174, ht586175, ht586176, ht586177, ht586178, ht586179, ht586180, ht586181, ht586182, ht586183, ht586184, ht586185, ht586186, hB586190⟩
      have ac586605 : (fI (F586198 q586139) 9).toInt = p586148.toInt := by rw [he586201]; rfl
      have ac586606 : (fI (F586198 q586139) 10).toInt = p586149.toInt := by rw [he586201]; rfl
      have ac586607 : (fI (F586198 q586139) 32).toInt = p586160.toInt := by rw [he586201]; rfl
      refine Gw_callV (As := []) (gV_ok D I) (ct_586352_SpillForgeModel_colourCount l hl0 D I γ el P586137 F586198 q586139 hT586347 htq586139 (by have qa0 : Int32.toInt 0 = 0 := (by decide); omega)) dr_cX17_count__148 ⟨wr_11_75, wr_1_14, wr_11_78, by decide, rfl, (Nat.le_of_ble_eq_true rfl), (Nat.le_of_ble_eq_true rfl)⟩ wr_11_77 wr_p_112 hm586144 he586201 rfl (show 0 + 0 ≤ 0 by first | omega | decide) (show 0 + 0 ≤ 0 by first | omega | decide) (Nat.le_of_ble_eq_true rfl) (fun r586611 w586612 dc586608 ds586609 hp586610 => ?_) (fun _ _ _ _ _ z => z.elim)
      obtain ⟨F586615, o586613, rfl, rfl, hT586616, hs586617, hdc, hds, x586614⟩ := hp586610
      have hs586618 : rStr γ [] F586138 F586615 := rStr_tr hs586202 hs586617
      have kp586619 : F586615 q586139 = F586198 q586139 := x586614
      have he586620 : F586615 q586139 = .inr (22, [.ref (γ 9 0), .ref (γ 9 1), .ref (γ 9 2), .ref (γ 9 3), .ref (γ 9 4), .ref (γ 9 5), .ref (γ 9 6), .ref (γ 9 7), .ref (γ 9 8), .int p586148, .int p586149, .int p586150, .int p586151, .int p586152, .int p586153, .ref (γ 9 15), .ref (γ 9 16), .ref (γ 9 17), .ref (γ 9 18), .ref (γ 9 19), .ref (γ 9 20), .ref (γ 9 21), .ref (γ 9 22), .int p586154, .int p586155, .int p586156, .int p586157, .int p586158, .ref q586146, .ref (γ 9 29), .int 0, .ref (γ 9 31), .int p586160, .int p586161, .int p586162, .ref q586147]) := (x586614).trans he586201
      have bo586613 := gB_any o586613
      change G _ _ _ _ _ _ _ (.int o586613 :: _) _ _ _
      refine G_widen (cs' := 0) (sl' := 0) (by omega) (by omega) ?_
      refine G_goto 155 dr_cX17_count__151 (by decide +kernel) ?_
      have ac586621 : (fI (F586615 q586139) 9).toInt = p586148.toInt := by rw [he586620]; rfl
      have ac586622 : (fI (F586615 q586139) 10).toInt = p586149.toInt := by rw [he586620]; rfl
      have ac586623 : (fI (F586615 q586139) 32).toInt = p586160.toInt := by rw [he586620]; rfl
      exact G_iretA dr_cX17_count__155 rfl (Nat.le_of_ble_eq_true rfl) (Nat.le_of_ble_eq_true rfl) ⟨F586615, o586613, rfl, rfl, hT586616, hs586618, (Nat.le_of_ble_eq_true rfl), (Nat.le_of_ble_eq_true rfl), (by omega), (by omega), (by omega)⟩
  by_cases hs586624 : p586140 = 7
  · have ehs586624 : p586140.toInt = 7 := gj_eq hs586624 (show Int32.toInt 7 = 7 by decide)
    have bp586140' : gB p586140 7 7 := ⟨by omega, by omega⟩
    refine G_eqi (y := 7) hs586624 ?_
    refine G_tableIn 156 dr_cX17_count__6 (by decide) (by decide) (by first | rfl | decide) (by decide) ?_
    refine G_aload_n 0 dr_cX17_count__156 rfl ?_
    refine Gp_get 10 hm586144 he586201 dr_cX17_count__157 (gk_X17 D I) (Nat.le_of_ble_eq_true rfl) wr_7_84 rfl ?_
    refine G_if_eq 170 dr_cX17_count__160 (by decide +kernel) (fun hc586625 => ?_) (fun hc586625 => ?_)
    · have r586626 : p586149.toInt = 0 := gj_eq hc586625 (show Int32.toInt 0 = 0 by decide)
      have bp586149' : gB p586149 0 0 := gB_t0 r586626
      refine G_iconst 0 dr_cX17_count__170 (by decide +kernel) ?_
      have hT586627 : RS D I P586137 F586198 γ el := RS_set hT n586200 htq586139 (by decide) ⟨q586146, q586147, p586148, p586149, p586150, p586151, p586152, p586153, p586154, p586155, p586156, p586157, p586158, 0, p586160, p586161, p586162, he586201, ⟨bp586148, (gB_w bp586149' (by decide) (by decide)), (hB586189.2.2.1), (hB586189.2.2.2.1), (hB586189.2.2.2.2.1), (hB586189.2.2.2.2.2.1), (hB586189.2.2.2.2.2.2.1), bp586160, (hB586189.2.2.2.2.2.2.2.2)⟩, ht586163, ht586164, ht586165, ht586166, ht586167, ht586168, ht586169, ht586170, ht586171, ht586172, ht586173, ht586174, ht586175, ht586176, ht586177, ht586178, ht586179, ht586180, ht586181, ht586182, ht586183, ht586184, ht586185, ht586186, hB586190⟩
      have ac586628 : (fI (F586198 q586139) 9).toInt = p586148.toInt := by rw [he586201]; rfl
      have ac586629 : (fI (F586198 q586139) 10).toInt = p586149.toInt := by rw [he586201]; rfl
      have ac586630 : (fI (F586198 q586139) 32).toInt = p586160.toInt := by rw [he586201]; rfl
      exact G_iretA dr_cX17_count__171 rfl (Nat.le_of_ble_eq_true rfl) (Nat.le_of_ble_eq_true rfl) ⟨F586198, 0, rfl, rfl, hT586627, hs586202, (Nat.le_of_ble_eq_true rfl), (Nat.le_of_ble_eq_true rfl), (by have qa0 : Int32.toInt 0 = 0 := (by decide); omega), (by have qa0 : Int32.toInt 0 = 0 := (by decide); omega), (by have qa0 : Int32.toInt 0 = 0 := (by decide); omega)⟩
    · have r586631 : p586149.toInt ≠ 0 := gj_neq hc586625 (show Int32.toInt 0 = 0 by decide)
      have bp586149' : gB p586149 1 1 := gB_t1 bp586149 r586631
      refine G_aload_n 0 dr_cX17_count__163 rfl ?_
      refine Gp_get 11 hm586144 he586201 dr_cX17_count__164 (gk_X17 D I) (Nat.le_of_ble_eq_true rfl) wr_7_85 rfl ?_
      have bp586150 : gB p586150 0 100 := (hB586189.2.2.1)
      refine G_goto 171 dr_cX17_count__167 (by decide +kernel) ?_
      have hT586632 : RS D I P586137 F586198 γ el := RS_set hT n586200 htq586139 (by decide) ⟨q586146, q586147, p586148, p586149, p586150, p586151, p586152, p586153, p586154, p586155, p586156, p586157, p586158, 0, p586160, p586161, p586162, he586201, ⟨bp586148, (gB_w bp586149' (by decide) (by decide)), bp586150, (hB586189.2.2.2.1), (hB586189.2.2.2.2.1), (hB586189.2.2.2.2.2.1), (hB586189.2.2.2.2.2.2.1), bp586160, (hB586189.2.2.2.2.2.2.2.2)⟩, ht586163, ht586164, ht586165, ht586166, ht586167, ht586168, ht586169, ht586170, ht586171, ht586172, ht586173, ht586174, ht586175, ht586176, ht586177, ht586178, ht586179, ht586180, ht586181, ht586182, ht586183, ht586184, ht586185, ht586186, hB586190⟩
      have ac586633 : (fI (F586198 q586139) 9).toInt = p586148.toInt := by rw [he586201]; rfl
      have ac586634 : (fI (F586198 q586139) 10).toInt = p586149.toInt := by rw [he586201]; rfl
      have ac586635 : (fI (F586198 q586139) 32).toInt = p586160.toInt := by rw [he586201]; rfl
      exact G_iretA dr_cX17_count__171 rfl (Nat.le_of_ble_eq_true rfl) (Nat.le_of_ble_eq_true rfl) ⟨F586198, p586150, rfl, rfl, hT586632, hs586202, (Nat.le_of_ble_eq_true rfl), (Nat.le_of_ble_eq_true rfl), (by omega), (by omega), (by omega)⟩
  by_cases hs586636 : p586140 = 8
  · have ehs586636 : p586140.toInt = 8 := gj_eq hs586636 (show Int32.toInt 8 = 8 by decide)
    have bp586140' : gB p586140 8 8 := ⟨by omega, by omega⟩
    refine G_eqi (y := 8) hs586636 ?_
    refine G_tableIn 172 dr_cX17_count__6 (by decide) (by decide) (by first | rfl | decide) (by decide) ?_
    refine G_aload_n 0 dr_cX17_count__172 rfl ?_
    refine Gp_get 10 hm586144 he586201 dr_cX17_count__173 (gk_X17 D I) (Nat.le_of_ble_eq_true rfl) wr_7_84 rfl ?_
    refine G_if_eq 186 dr_cX17_count__176 (by decide +kernel) (fun hc586637 => ?_) (fun hc586637 => ?_)
    · have r586638 : p586149.toInt = 0 := gj_eq hc586637 (show Int32.toInt 0 = 0 by decide)
      have bp586149' : gB p586149 0 0 := gB_t0 r586638
      refine G_iconst 0 dr_cX17_count__186 (by decide +kernel) ?_
      have hT586639 : RS D I P586137 F586198 γ el := RS_set hT n586200 htq586139 (by decide) ⟨q586146, q586147, p586148, p586149, p586150, p586151, p586152, p586153, p586154, p586155, p586156, p586157, p586158, 0, p586160, p586161, p586162, he586201, ⟨bp586148, (gB_w bp586149' (by decide) (by decide)), (hB586189.2.2.1), (hB586189.2.2.2.1), (hB586189.2.2.2.2.1), (hB586189.2.2.2.2.2.1), (hB586189.2.2.2.2.2.2.1), bp586160, (hB586189.2.2.2.2.2.2.2.2)⟩, ht586163, ht586164, ht586165, ht586166, ht586167, ht586168, ht586169, ht586170, ht586171, ht586172, ht586173, ht586174, ht586175, ht586176, ht586177, ht586178, ht586179, ht586180, ht586181, ht586182, ht586183, ht586184, ht586185, ht586186, hB586190⟩
      have ac586640 : (fI (F586198 q586139) 9).toInt = p586148.toInt := by rw [he586201]; rfl
      have ac586641 : (fI (F586198 q586139) 10).toInt = p586149.toInt := by rw [he586201]; rfl
      have ac586642 : (fI (F586198 q586139) 32).toInt = p586160.toInt := by rw [he586201]; rfl
      exact G_iretA dr_cX17_count__187 rfl (Nat.le_of_ble_eq_true rfl) (Nat.le_of_ble_eq_true rfl) ⟨F586198, 0, rfl, rfl, hT586639, hs586202, (Nat.le_of_ble_eq_true rfl), (Nat.le_of_ble_eq_true rfl), (by have qa0 : Int32.toInt 0 = 0 := (by decide); omega), (by have qa0 : Int32.toInt 0 = 0 := (by decide); omega), (by have qa0 : Int32.toInt 0 = 0 := (by decide); omega)⟩
    · have r586643 : p586149.toInt ≠ 0 := gj_neq hc586637 (show Int32.toInt 0 = 0 by decide)
      have bp586149' : gB p586149 1 1 := gB_t1 bp586149 r586643
      refine G_aload_n 0 dr_cX17_count__179 rfl ?_
      refine Gp_get 12 hm586144 he586201 dr_cX17_count__180 (gk_X17 D I) (Nat.le_of_ble_eq_true rfl) wr_7_86 rfl ?_
      have bp586151 : gB p586151 (-2147483648) 2147483647 := (gB_any p586151)
      refine G_goto 187 dr_cX17_count__183 (by decide +kernel) ?_
      have hT586644 : RS D I P586137 F586198 γ el := RS_set hT n586200 htq586139 (by decide) ⟨q586146, q586147, p586148, p586149, p586150, p586151, p586152, p586153, p586154, p586155, p586156, p586157, p586158, 0, p586160, p586161, p586162, he586201, ⟨bp586148, (gB_w bp586149' (by decide) (by decide)), (hB586189.2.2.1), (hB586189.2.2.2.1), (hB586189.2.2.2.2.1), (hB586189.2.2.2.2.2.1), (hB586189.2.2.2.2.2.2.1), bp586160, (hB586189.2.2.2.2.2.2.2.2)⟩, ht586163, ht586164, ht586165, ht586166, ht586167, ht586168, ht586169, ht586170, ht586171, ht586172, ht586173, ht586174, ht586175, ht586176, ht586177, ht586178, ht586179, ht586180, ht586181, ht586182, ht586183, ht586184, ht586185, ht586186, hB586190⟩
      have ac586645 : (fI (F586198 q586139) 9).toInt = p586148.toInt := by rw [he586201]; rfl
      have ac586646 : (fI (F586198 q586139) 10).toInt = p586149.toInt := by rw [he586201]; rfl
      have ac586647 : (fI (F586198 q586139) 32).toInt = p586160.toInt := by rw [he586201]; rfl
      exact G_iretA dr_cX17_count__187 rfl (Nat.le_of_ble_eq_true rfl) (Nat.le_of_ble_eq_true rfl) ⟨F586198, p586151, rfl, rfl, hT586644, hs586202, (Nat.le_of_ble_eq_true rfl), (Nat.le_of_ble_eq_true rfl), (by omega), (by omega), (by omega)⟩
  by_cases hs586648 : p586140 = 9
  · have ehs586648 : p586140.toInt = 9 := gj_eq hs586648 (show Int32.toInt 9 = 9 by decide)
    have bp586140' : gB p586140 9 9 := ⟨by omega, by omega⟩
    refine G_eqi (y := 9) hs586648 ?_
    refine G_tableIn 188 dr_cX17_count__6 (by decide) (by decide) (by first | rfl | decide) (by decide) ?_
    refine G_aload_n 0 dr_cX17_count__188 rfl ?_
    refine Gp_get 10 hm586144 he586201 dr_cX17_count__189 (gk_X17 D I) (Nat.le_of_ble_eq_true rfl) wr_7_84 rfl ?_
    refine G_if_eq 202 dr_cX17_count__192 (by decide +kernel) (fun hc586649 => ?_) (fun hc586649 => ?_)
    · have r586650 : p586149.toInt = 0 := gj_eq hc586649 (show Int32.toInt 0 = 0 by decide)
      have bp586149' : gB p586149 0 0 := gB_t0 r586650
      refine G_iconst 0 dr_cX17_count__202 (by decide +kernel) ?_
      have hT586651 : RS D I P586137 F586198 γ el := RS_set hT n586200 htq586139 (by decide) ⟨q586146, q586147, p586148, p586149, p586150, p586151, p586152, p586153, p586154, p586155, p586156, p586157, p586158, 0, p586160, p586161, p586162, he586201, ⟨bp586148, (gB_w bp586149' (by decide) (by decide)), (hB586189.2.2.1), (hB586189.2.2.2.1), (hB586189.2.2.2.2.1), (hB586189.2.2.2.2.2.1), (hB586189.2.2.2.2.2.2.1), bp586160, (hB586189.2.2.2.2.2.2.2.2)⟩, ht586163, ht586164, ht586165, ht586166, ht586167, ht586168, ht586169, ht586170, ht586171, ht586172, ht586173, ht586174, ht586175, ht586176, ht586177, ht586178, ht586179, ht586180, ht586181, ht586182, ht586183, ht586184, ht586185, ht586186, hB586190⟩
      have ac586652 : (fI (F586198 q586139) 9).toInt = p586148.toInt := by rw [he586201]; rfl
      have ac586653 : (fI (F586198 q586139) 10).toInt = p586149.toInt := by rw [he586201]; rfl
      have ac586654 : (fI (F586198 q586139) 32).toInt = p586160.toInt := by rw [he586201]; rfl
      exact G_iretA dr_cX17_count__203 rfl (Nat.le_of_ble_eq_true rfl) (Nat.le_of_ble_eq_true rfl) ⟨F586198, 0, rfl, rfl, hT586651, hs586202, (Nat.le_of_ble_eq_true rfl), (Nat.le_of_ble_eq_true rfl), (by have qa0 : Int32.toInt 0 = 0 := (by decide); omega), (by have qa0 : Int32.toInt 0 = 0 := (by decide); omega), (by have qa0 : Int32.toInt 0 = 0 := (by decide); omega)⟩
    · have r586655 : p586149.toInt ≠ 0 := gj_neq hc586649 (show Int32.toInt 0 = 0 by decide)
      have bp586149' : gB p586149 1 1 := gB_t1 bp586149 r586655
      refine G_aload_n 0 dr_cX17_count__195 rfl ?_
      refine Gp_get 13 hm586144 he586201 dr_cX17_count__196 (gk_X17 D I) (Nat.le_of_ble_eq_true rfl) wr_7_87 rfl ?_
      have bp586152 : gB p586152 (-2147483648) 2147483647 := (gB_any p586152)
      refine G_goto 203 dr_cX17_count__199 (by decide +kernel) ?_
      have hT586656 : RS D I P586137 F586198 γ el := RS_set hT n586200 htq586139 (by decide) ⟨q586146, q586147, p586148, p586149, p586150, p586151, p586152, p586153, p586154, p586155, p586156, p586157, p586158, 0, p586160, p586161, p586162, he586201, ⟨bp586148, (gB_w bp586149' (by decide) (by decide)), (hB586189.2.2.1), (hB586189.2.2.2.1), (hB586189.2.2.2.2.1), (hB586189.2.2.2.2.2.1), (hB586189.2.2.2.2.2.2.1), bp586160, (hB586189.2.2.2.2.2.2.2.2)⟩, ht586163, ht586164, ht586165, ht586166, ht586167, ht586168, ht586169, ht586170, ht586171, ht586172, ht586173, ht586174, ht586175, ht586176, ht586177, ht586178, ht586179, ht586180, ht586181, ht586182, ht586183, ht586184, ht586185, ht586186, hB586190⟩
      have ac586657 : (fI (F586198 q586139) 9).toInt = p586148.toInt := by rw [he586201]; rfl
      have ac586658 : (fI (F586198 q586139) 10).toInt = p586149.toInt := by rw [he586201]; rfl
      have ac586659 : (fI (F586198 q586139) 32).toInt = p586160.toInt := by rw [he586201]; rfl
      exact G_iretA dr_cX17_count__203 rfl (Nat.le_of_ble_eq_true rfl) (Nat.le_of_ble_eq_true rfl) ⟨F586198, p586152, rfl, rfl, hT586656, hs586202, (Nat.le_of_ble_eq_true rfl), (Nat.le_of_ble_eq_true rfl), (by omega), (by omega), (by omega)⟩
  by_cases hs586660 : p586140 = 10
  · have ehs586660 : p586140.toInt = 10 := gj_eq hs586660 (show Int32.toInt 10 = 10 by decide)
    have bp586140' : gB p586140 10 10 := ⟨by omega, by omega⟩
    refine G_eqi (y := 10) hs586660 ?_
    refine G_tableIn 204 dr_cX17_count__6 (by decide) (by decide) (by first | rfl | decide) (by decide) ?_
    refine G_aload_n 0 dr_cX17_count__204 rfl ?_
    refine Gp_get 10 hm586144 he586201 dr_cX17_count__205 (gk_X17 D I) (Nat.le_of_ble_eq_true rfl) wr_7_84 rfl ?_
    refine G_if_eq 223 dr_cX17_count__208 (by decide +kernel) (fun hc586661 => ?_) (fun hc586661 => ?_)
    · have r586662 : p586149.toInt = 0 := gj_eq hc586661 (show Int32.toInt 0 = 0 by decide)
      have bp586149' : gB p586149 0 0 := gB_t0 r586662
      refine G_iconst 0 dr_cX17_count__223 (by decide +kernel) ?_
      have hT586663 : RS D I P586137 F586198 γ el := RS_set hT n586200 htq586139 (by decide) ⟨q586146, q586147, p586148, p586149, p586150, p586151, p586152, p586153, p586154, p586155, p586156, p586157, p586158, 0, p586160, p586161, p586162, he586201, ⟨bp586148, (gB_w bp586149' (by decide) (by decide)), (hB586189.2.2.1), (hB586189.2.2.2.1), (hB586189.2.2.2.2.1), (hB586189.2.2.2.2.2.1), (hB586189.2.2.2.2.2.2.1), bp586160, (hB586189.2.2.2.2.2.2.2.2)⟩, ht586163, ht586164, ht586165, ht586166, ht586167, ht586168, ht586169, ht586170, ht586171, ht586172, ht586173, ht586174, ht586175, ht586176, ht586177, ht586178, ht586179, ht586180, ht586181, ht586182, ht586183, ht586184, ht586185, ht586186, hB586190⟩
      have ac586664 : (fI (F586198 q586139) 9).toInt = p586148.toInt := by rw [he586201]; rfl
      have ac586665 : (fI (F586198 q586139) 10).toInt = p586149.toInt := by rw [he586201]; rfl
      have ac586666 : (fI (F586198 q586139) 32).toInt = p586160.toInt := by rw [he586201]; rfl
      exact G_iretA dr_cX17_count__224 rfl (Nat.le_of_ble_eq_true rfl) (Nat.le_of_ble_eq_true rfl) ⟨F586198, 0, rfl, rfl, hT586663, hs586202, (Nat.le_of_ble_eq_true rfl), (Nat.le_of_ble_eq_true rfl), (by have qa0 : Int32.toInt 0 = 0 := (by decide); omega), (by have qa0 : Int32.toInt 0 = 0 := (by decide); omega), (by have qa0 : Int32.toInt 0 = 0 := (by decide); omega)⟩
    · have r586667 : p586149.toInt ≠ 0 := gj_neq hc586661 (show Int32.toInt 0 = 0 by decide)
      have bp586149' : gB p586149 1 1 := gB_t1 bp586149 r586667
      refine G_aload_n 0 dr_cX17_count__211 rfl ?_
      refine Gp_get 7 hm586144 he586201 dr_cX17_count__212 (gk_X17 D I) (Nat.le_of_ble_eq_true rfl) wr_7_81 rfl ?_
      refine G_bipush 21 dr_cX17_count__215 (by decide +kernel) ?_
      have hT586668 : RS D I P586137 F586198 γ el := RS_set hT n586200 htq586139 (by decide) ⟨q586146, q586147, p586148, p586149, p586150, p586151, p586152, p586153, p586154, p586155, p586156, p586157, p586158, 0, p586160, p586161, p586162, he586201, ⟨bp586148, (gB_w bp586149' (by decide) (by decide)), (hB586189.2.2.1), (hB586189.2.2.2.1), (hB586189.2.2.2.2.1), (hB586189.2.2.2.2.2.1), (hB586189.2.2.2.2.2.2.1), bp586160, (hB586189.2.2.2.2.2.2.2.2)⟩, ht586163, ht586164, ht586165, ht586166, ht586167, ht586168, ht586169, ht586170, ht586171, ht586172, ht586173, ht586174, ht586175, ht586176, ht586177, ht586178, ht586179, ht586180, ht586181, ht586182, ht586183, ht586184, ht586185, ht586186, hB586190⟩
      have hm586674 : (γ 9 7) ∈ P586137 := RS_m hT586668 ht586172 (by decide)
      obtain ⟨q586676, q586677, p586678, p586679, he586675, ht586695, ht586680, ht586681, ht586682, ht586683, r586684, r586685, r586686, r586687, r586688, r586689, r586690, r586691, r586692, r586693, r586694⟩ := show rk_9 γ el (γ 9 7) (F586198 (γ 9 7)) from RS_o hT586668 ht586172
      have bp586678 : gB p586678 0 1000000 := ⟨by omega, by omega⟩
      have bp586679 : gB p586679 0 1000000 := ⟨by omega, by omega⟩
      refine Gw_callV (As := [.int 21]) (gV_ok D I) (ct_8782_Code_count l hl0 D I γ el P586137 F586198 (γ 9 7) 21 hT586668 ht586172 (by have qa0 : Int32.toInt 0 = 0 := (by decide); omega)) dr_cX17_count__217 ⟨wr_11_79, wr_1_15, wr_11_82, by decide, rfl, (Nat.le_of_ble_eq_true rfl), (Nat.le_of_ble_eq_true rfl)⟩ wr_11_80 wr_11_81 hm586674 he586675 rfl (show 0 + 0 ≤ 0 by first | omega | decide) (show 0 + 0 ≤ 0 by first | omega | decide) (Nat.le_of_ble_eq_true rfl) (fun r586672 w586673 dc586669 ds586670 hp586671 => ?_) (fun _ _ _ _ _ z => z.elim)
      obtain ⟨o586696, rfl, rfl, hdc, hds, ht586697⟩ := hp586671
      have bo586696 := gB_any o586696
      change G _ _ _ _ _ _ _ (.int o586696 :: _) _ _ _
      refine G_widen (cs' := 0) (sl' := 0) (by omega) (by omega) ?_
      refine G_goto 224 dr_cX17_count__220 (by decide +kernel) ?_
      have ac586698 : (fI (F586198 q586139) 9).toInt = p586148.toInt := by rw [he586201]; rfl
      have ac586699 : (fI (F586198 q586139) 10).toInt = p586149.toInt := by rw [he586201]; rfl
      have ac586700 : (fI (F586198 q586139) 32).toInt = p586160.toInt := by rw [he586201]; rfl
      exact G_iretA dr_cX17_count__224 rfl (Nat.le_of_ble_eq_true rfl) (Nat.le_of_ble_eq_true rfl) ⟨F586198, o586696, rfl, rfl, hT586668, hs586202, (Nat.le_of_ble_eq_true rfl), (Nat.le_of_ble_eq_true rfl), (by omega), (by omega), (by omega)⟩
  by_cases hs586701 : p586140 = 11
  · have ehs586701 : p586140.toInt = 11 := gj_eq hs586701 (show Int32.toInt 11 = 11 by decide)
    have bp586140' : gB p586140 11 11 := ⟨by omega, by omega⟩
    refine G_eqi (y := 11) hs586701 ?_
    refine G_tableIn 225 dr_cX17_count__6 (by decide) (by decide) (by first | rfl | decide) (by decide) ?_
    refine G_aload_n 0 dr_cX17_count__225 rfl ?_
    refine Gp_get 10 hm586144 he586201 dr_cX17_count__226 (gk_X17 D I) (Nat.le_of_ble_eq_true rfl) wr_7_84 rfl ?_
    refine G_if_eq 244 dr_cX17_count__229 (by decide +kernel) (fun hc586702 => ?_) (fun hc586702 => ?_)
    · have r586703 : p586149.toInt = 0 := gj_eq hc586702 (show Int32.toInt 0 = 0 by decide)
      have bp586149' : gB p586149 0 0 := gB_t0 r586703
      refine G_iconst 0 dr_cX17_count__244 (by decide +kernel) ?_
      have hT586704 : RS D I P586137 F586198 γ el := RS_set hT n586200 htq586139 (by decide) ⟨q586146, q586147, p586148, p586149, p586150, p586151, p586152, p586153, p586154, p586155, p586156, p586157, p586158, 0, p586160, p586161, p586162, he586201, ⟨bp586148, (gB_w bp586149' (by decide) (by decide)), (hB586189.2.2.1), (hB586189.2.2.2.1), (hB586189.2.2.2.2.1), (hB586189.2.2.2.2.2.1), (hB586189.2.2.2.2.2.2.1), bp586160, (hB586189.2.2.2.2.2.2.2.2)⟩, ht586163, ht586164, ht586165, ht586166, ht586167, ht586168, ht586169, ht586170, ht586171, ht586172, ht586173, ht586174, ht586175, ht586176, ht586177, ht586178, ht586179, ht586180, ht586181, ht586182, ht586183, ht586184, ht586185, ht586186, hB586190⟩
      have ac586705 : (fI (F586198 q586139) 9).toInt = p586148.toInt := by rw [he586201]; rfl
      have ac586706 : (fI (F586198 q586139) 10).toInt = p586149.toInt := by rw [he586201]; rfl
      have ac586707 : (fI (F586198 q586139) 32).toInt = p586160.toInt := by rw [he586201]; rfl
      exact G_iretA dr_cX17_count__245 rfl (Nat.le_of_ble_eq_true rfl) (Nat.le_of_ble_eq_true rfl) ⟨F586198, 0, rfl, rfl, hT586704, hs586202, (Nat.le_of_ble_eq_true rfl), (Nat.le_of_ble_eq_true rfl), (by have qa0 : Int32.toInt 0 = 0 := (by decide); omega), (by have qa0 : Int32.toInt 0 = 0 := (by decide); omega), (by have qa0 : Int32.toInt 0 = 0 := (by decide); omega)⟩
    · have r586708 : p586149.toInt ≠ 0 := gj_neq hc586702 (show Int32.toInt 0 = 0 by decide)
      have bp586149' : gB p586149 1 1 := gB_t1 bp586149 r586708
      refine G_aload_n 0 dr_cX17_count__232 rfl ?_
      refine Gp_get 7 hm586144 he586201 dr_cX17_count__233 (gk_X17 D I) (Nat.le_of_ble_eq_true rfl) wr_7_81 rfl ?_
      refine G_bipush 23 dr_cX17_count__236 (by decide +kernel) ?_
      have hT586709 : RS D I P586137 F586198 γ el := RS_set hT n586200 htq586139 (by decide) ⟨q586146, q586147, p586148, p586149, p586150, p586151, p586152, p586153, p586154, p586155, p586156, p586157, p586158, 0, p586160, p586161, p586162, he586201, ⟨bp586148, (gB_w bp586149' (by decide) (by decide)), (hB586189.2.2.1), (hB586189.2.2.2.1), (hB586189.2.2.2.2.1), (hB586189.2.2.2.2.2.1), (hB586189.2.2.2.2.2.2.1), bp586160, (hB586189.2.2.2.2.2.2.2.2)⟩, ht586163, ht586164, ht586165, ht586166, ht586167, ht586168, ht586169, ht586170, ht586171, ht586172, ht586173, ht586174, ht586175, ht586176, ht586177, ht586178, ht586179, ht586180, ht586181, ht586182, ht586183, ht586184, ht586185, ht586186, hB586190⟩
      have hm586715 : (γ 9 7) ∈ P586137 := RS_m hT586709 ht586172 (by decide)
      obtain ⟨q586717, q586718, p586719, p586720, he586716, ht586736, ht586721, ht586722, ht586723, ht586724, r586725, r586726, r586727, r586728, r586729, r586730, r586731, r586732, r586733, r586734, r586735⟩ := show rk_9 γ el (γ 9 7) (F586198 (γ 9 7)) from RS_o hT586709 ht586172
      have bp586719 : gB p586719 0 1000000 := ⟨by omega, by omega⟩
      have bp586720 : gB p586720 0 1000000 := ⟨by omega, by omega⟩
      refine Gw_callV (As := [.int 23]) (gV_ok D I) (ct_8782_Code_count l hl0 D I γ el P586137 F586198 (γ 9 7) 23 hT586709 ht586172 (by have qa0 : Int32.toInt 0 = 0 := (by decide); omega)) dr_cX17_count__238 ⟨wr_11_79, wr_1_15, wr_11_82, by decide, rfl, (Nat.le_of_ble_eq_true rfl), (Nat.le_of_ble_eq_true rfl)⟩ wr_11_80 wr_11_81 hm586715 he586716 rfl (show 0 + 0 ≤ 0 by first | omega | decide) (show 0 + 0 ≤ 0 by first | omega | decide) (Nat.le_of_ble_eq_true rfl) (fun r586713 w586714 dc586710 ds586711 hp586712 => ?_) (fun _ _ _ _ _ z => z.elim)
      obtain ⟨o586737, rfl, rfl, hdc, hds, ht586738⟩ := hp586712
      have bo586737 := gB_any o586737
      change G _ _ _ _ _ _ _ (.int o586737 :: _) _ _ _
      refine G_widen (cs' := 0) (sl' := 0) (by omega) (by omega) ?_
      refine G_goto 245 dr_cX17_count__241 (by decide +kernel) ?_
      have ac586739 : (fI (F586198 q586139) 9).toInt = p586148.toInt := by rw [he586201]; rfl
      have ac586740 : (fI (F586198 q586139) 10).toInt = p586149.toInt := by rw [he586201]; rfl
      have ac586741 : (fI (F586198 q586139) 32).toInt = p586160.toInt := by rw [he586201]; rfl
      exact G_iretA dr_cX17_count__245 rfl (Nat.le_of_ble_eq_true rfl) (Nat.le_of_ble_eq_true rfl) ⟨F586198, o586737, rfl, rfl, hT586709, hs586202, (Nat.le_of_ble_eq_true rfl), (Nat.le_of_ble_eq_true rfl), (by omega), (by omega), (by omega)⟩
  have ehs586203 := lv_neT hs586203 (show Int32.toInt 0 = 0 by decide)
  have ehs586242 := lv_neT hs586242 (show Int32.toInt 1 = 1 by decide)
  have ehs586283 := lv_neT hs586283 (show Int32.toInt 2 = 2 by decide)
  have ehs586288 := lv_neT hs586288 (show Int32.toInt 3 = 3 by decide)
  have ehs586293 := lv_neT hs586293 (show Int32.toInt 4 = 4 by decide)
  have ehs586298 := lv_neT hs586298 (show Int32.toInt 5 = 5 by decide)
  have ehs586339 := lv_neT hs586339 (show Int32.toInt 6 = 6 by decide)
  have ehs586624 := lv_neT hs586624 (show Int32.toInt 7 = 7 by decide)
  have ehs586636 := lv_neT hs586636 (show Int32.toInt 8 = 8 by decide)
  have ehs586648 := lv_neT hs586648 (show Int32.toInt 9 = 9 by decide)
  have ehs586660 := lv_neT hs586660 (show Int32.toInt 10 = 10 by decide)
  have ehs586701 := lv_neT hs586701 (show Int32.toInt 11 = 11 by decide)
  refine G_tableOut 246 dr_cX17_count__6 (by omega) (by decide) ?_
  refine G_aload_n 0 dr_cX17_count__246 rfl ?_
  refine G_iconst 1 dr_cX17_count__247 (by decide +kernel) ?_
  have hT586742 : RS D I P586137 F586198 γ el := RS_set hT n586200 htq586139 (by decide) ⟨q586146, q586147, p586148, p586149, p586150, p586151, p586152, p586153, p586154, p586155, p586156, p586157, p586158, 0, p586160, p586161, p586162, he586201, ⟨bp586148, bp586149, (hB586189.2.2.1), (hB586189.2.2.2.1), (hB586189.2.2.2.2.1), (hB586189.2.2.2.2.2.1), (hB586189.2.2.2.2.2.2.1), bp586160, (hB586189.2.2.2.2.2.2.2.2)⟩, ht586163, ht586164, ht586165, ht586166, ht586167, ht586168, ht586169, ht586170, ht586171, ht586172, ht586173, ht586174, ht586175, ht586176, ht586177, ht586178, ht586179, ht586180, ht586181, ht586182, ht586183, ht586184, ht586185, ht586186, hB586190⟩
  have ac586743 : (fI (F586198 q586139) 9).toInt = p586148.toInt := by rw [he586201]; rfl
  have ac586744 : (fI (F586198 q586139) 10).toInt = p586149.toInt := by rw [he586201]; rfl
  have ac586745 : (fI (F586198 q586139) 32).toInt = p586160.toInt := by rw [he586201]; rfl
  refine Gw_callV (As := [.int 1]) (gV_ok D I) (ct_578755_SpillForgeModel_no l hl0 D I γ el P586137 F586198 q586139 1 hT586742 htq586139) dr_cX17_count__248 ⟨wr_7_191, wr_1_14, wr_7_194, by decide, rfl, (Nat.le_of_ble_eq_true rfl), (Nat.le_of_ble_eq_true rfl)⟩ wr_7_193 wr_p_73 hm586144 he586201 rfl (show 0 + 0 ≤ 0 by first | omega | decide) (show 0 + 0 ≤ 0 by first | omega | decide) (Nat.le_of_ble_eq_true rfl) (fun r586749 w586750 dc586746 ds586747 hp586748 => ?_) (fun _ _ _ _ _ z => z.elim)
  obtain ⟨F586755, rfl, rfl, hT586756, hs586757, hdc, hds, x586751, x586752, x586753, x586754⟩ := hp586748
  have hs586758 : rStr γ [] F586138 F586755 := rStr_tr hs586202 hs586757
  rw [show Int32.toInt 1 = 1 from by decide] at x586754
  change G _ _ _ _ _ _ _ (.int 0 :: _) _ _ _
  refine G_widen (cs' := 0) (sl' := 0) (by omega) (by omega) ?_
  have hm586759 : q586139 ∈ P586137 := RS_m hT586756 htq586139 (by decide)
  refine rk10_e (show rk_10 γ (F586755 q586139) from RS_o hT586756 htq586139) (fun q586761 q586762 p586763 p586764 p586765 p586766 p586767 p586768 p586769 p586770 p586771 p586772 p586773 p586774 p586775 p586776 p586777 he586760 hB586804 ht586778 ht586779 ht586780 ht586781 ht586782 ht586783 ht586784 ht586785 ht586786 ht586787 ht586788 ht586789 ht586790 ht586791 ht586792 ht586793 ht586794 ht586795 ht586796 ht586797 ht586798 ht586799 ht586800 ht586801 hB586805 => ?_)
  have ac586806 : (fI (F586755 q586139) 9).toInt = p586763.toInt := by rw [he586760]; rfl
  have bp586763 : gB p586763 0 1 := (hB586804.1)
  have ac586807 : (fI (F586755 q586139) 10).toInt = p586764.toInt := by rw [he586760]; rfl
  have bp586764 : gB p586764 0 1 := (hB586804.2.1)
  have ac586808 : (fI (F586755 q586139) 32).toInt = p586775.toInt := by rw [he586760]; rfl
  have bp586775 : gB p586775 0 8192 := (hB586804.2.2.2.2.2.2.2.1)
  have ac586809 : (fI (F586755 q586139) 9).toInt = p586763.toInt := by rw [he586760]; rfl
  have ac586810 : (fI (F586755 q586139) 10).toInt = p586764.toInt := by rw [he586760]; rfl
  have ac586811 : (fI (F586755 q586139) 32).toInt = p586775.toInt := by rw [he586760]; rfl
  exact G_iretA dr_cX17_count__251 rfl (Nat.le_of_ble_eq_true rfl) (Nat.le_of_ble_eq_true rfl) ⟨F586755, 0, rfl, rfl, hT586756, hs586758, (Nat.le_of_ble_eq_true rfl), (Nat.le_of_ble_eq_true rfl), (by have qa0 : Int32.toInt 0 = 0 := (by decide); omega), (by have qa0 : Int32.toInt 0 = 0 := (by decide); omega), (by have qa0 : Int32.toInt 0 = 0 := (by decide); omega)⟩
