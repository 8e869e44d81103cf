theorem dr_cX17_colourCount_0 : decode cX17_colourCount 0 = .ok (.iconst 0, 1) := by decide +kernel
theorem dr_cX17_colourCount_1 : decode cX17_colourCount 1 = .ok (.istore_n 1, 1) := by decide +kernel
theorem dr_cX17_colourCount_2 : decode cX17_colourCount 2 = .ok (.aload_n 0, 1) := by decide +kernel
theorem dr_cX17_colourCount_3 : decode cX17_colourCount 3 = .ok (.aload_n 0, 1) := by decide +kernel
theorem dr_cX17_colourCount_4 : decode cX17_colourCount 4 = .ok (.getfield 365, 3) := by decide +kernel
theorem dr_cX17_colourCount_7 : decode cX17_colourCount 7 = .ok (.iconst 0, 1) := by decide +kernel
theorem dr_cX17_colourCount_8 : decode cX17_colourCount 8 = .ok (.invokevirtual 243, 3) := by decide +kernel
theorem dr_cX17_colourCount_11 : decode cX17_colourCount 11 = .ok (.iconst 0, 1) := by decide +kernel
theorem dr_cX17_colourCount_12 : decode cX17_colourCount 12 = .ok (.istore_n 2, 1) := by decide +kernel
theorem dr_cX17_colourCount_13 : decode cX17_colourCount 13 = .ok (.iload_n 2, 1) := by decide +kernel
theorem dr_cX17_colourCount_14 : decode cX17_colourCount 14 = .ok (.sipush 2000, 3) := by decide +kernel
theorem dr_cX17_colourCount_17 : decode cX17_colourCount 17 = .ok (.if_icmp .ge 26, 3) := by decide +kernel
theorem dr_cX17_colourCount_43 : decode cX17_colourCount 43 = .ok (.iload_n 1, 1) := by decide +kernel
theorem dr_cX17_colourCount_44 : decode cX17_colourCount 44 = .ok (.ireturn, 1) := by decide +kernel
theorem dr_cX17_colourCount_20 : decode cX17_colourCount 20 = .ok (.iload_n 1, 1) := by decide +kernel
theorem dr_cX17_colourCount_21 : decode cX17_colourCount 21 = .ok (.aload_n 0, 1) := by decide +kernel
theorem dr_cX17_colourCount_22 : decode cX17_colourCount 22 = .ok (.getfield 131, 3) := by decide +kernel
theorem dr_cX17_colourCount_25 : decode cX17_colourCount 25 = .ok (.iload_n 2, 1) := by decide +kernel
theorem dr_cX17_colourCount_26 : decode cX17_colourCount 26 = .ok (.baload, 1) := by decide +kernel
theorem dr_cX17_colourCount_27 : decode cX17_colourCount 27 = .ok (.ifCond .eq 7, 3) := by decide +kernel
theorem dr_cX17_colourCount_34 : decode cX17_colourCount 34 = .ok (.iconst 0, 1) := by decide +kernel
theorem dr_cX17_colourCount_35 : decode cX17_colourCount 35 = .ok (.iadd, 1) := by decide +kernel
theorem dr_cX17_colourCount_36 : decode cX17_colourCount 36 = .ok (.istore_n 1, 1) := by decide +kernel
theorem dr_cX17_colourCount_37 : decode cX17_colourCount 37 = .ok (.iinc 2 1, 3) := by decide +kernel
theorem dr_cX17_colourCount_40 : decode cX17_colourCount 40 = .ok (.goto (-27), 3) := by decide +kernel
theorem dr_cX17_colourCount_30 : decode cX17_colourCount 30 = .ok (.iconst 1, 1) := by decide +kernel
theorem dr_cX17_colourCount_31 : decode cX17_colourCount 31 = .ok (.goto 4, 3) := by decide +kernel
theorem dr_cX17_count__0 : decode cX17_count_ 0 = .ok (.aload_n 0, 1) := by decide +kernel
theorem dr_cX17_count__1 : decode cX17_count_ 1 = .ok (.iconst 0, 1) := by decide +kernel
theorem dr_cX17_count__2 : decode cX17_count_ 2 = .ok (.putfield 380, 3) := by decide +kernel
theorem dr_cX17_count__5 : decode cX17_count_ 5 = .ok (.iload_n 1, 1) := by decide +kernel
theorem dr_cX17_count__6 : decode cX17_count_ 6 = .ok (.tableswitch 240 0 11 #[62, 81, 100, 105, 110, 115, 134, 150, 166, 182, 198, 219], 62) := by decide +kernel
theorem dr_cX17_count__68 : decode cX17_count_ 68 = .ok (.aload_n 0, 1) := by decide +kernel
theorem dr_cX17_count__69 : decode cX17_count_ 69 = .ok (.getfield 414, 3) := by decide +kernel
theorem dr_cX17_count__72 : decode cX17_count_ 72 = .ok (.ifCond .eq 13, 3) := by decide +kernel
theorem dr_cX17_count__85 : decode cX17_count_ 85 = .ok (.iconst 0, 1) := by decide +kernel
theorem dr_cX17_count__86 : decode cX17_count_ 86 = .ok (.ireturn, 1) := by decide +kernel
theorem dr_cX17_count__75 : decode cX17_count_ 75 = .ok (.aload_n 0, 1) := by decide +kernel
theorem dr_cX17_count__76 : decode cX17_count_ 76 = .ok (.getfield 361, 3) := by decide +kernel
theorem dr_cX17_count__79 : decode cX17_count_ 79 = .ok (.invokevirtual 96, 3) := by decide +kernel
theorem dr_cX17_count__82 : decode cX17_count_ 82 = .ok (.goto 4, 3) := by decide +kernel
theorem dr_cX17_count__87 : decode cX17_count_ 87 = .ok (.aload_n 0, 1) := by decide +kernel
theorem dr_cX17_count__88 : decode cX17_count_ 88 = .ok (.getfield 414, 3) := by decide +kernel
theorem dr_cX17_count__91 : decode cX17_count_ 91 = .ok (.ifCond .eq 13, 3) := by decide +kernel
theorem dr_cX17_count__104 : decode cX17_count_ 104 = .ok (.iconst 0, 1) := by decide +kernel
theorem dr_cX17_count__105 : decode cX17_count_ 105 = .ok (.ireturn, 1) := by decide +kernel
theorem dr_cX17_count__94 : decode cX17_count_ 94 = .ok (.aload_n 0, 1) := by decide +kernel
theorem dr_cX17_count__95 : decode cX17_count_ 95 = .ok (.getfield 361, 3) := by decide +kernel
theorem dr_cX17_count__98 : decode cX17_count_ 98 = .ok (.invokevirtual 234, 3) := by decide +kernel
theorem wr_10_229 : (Jvm.Cond.methodLink "SpillForgeModel" (234 : Nat) ({ cls := "SpillForgeModel$Code", name := "countRows", desc := "()I" } : Jvm.MethodName)) ∈ gw := gw_10 229 rfl rfl
theorem wr_10_232 : (Jvm.Cond.code ({ cls := "SpillForgeModel$Code", name := "countRows", desc := "()I" } : Jvm.MethodName) prog_16_method_7_code (3 : Nat) (Option.some Jvm.ClassFile.FieldType.int)) ∈ gw := gw_10 232 rfl rfl
theorem wr_10_230 : (Jvm.Cond.instanceMethod ({ cls := "SpillForgeModel$Code", name := "countRows", desc := "()I" } : Jvm.MethodName)) ∈ gw := gw_10 230 rfl rfl
theorem wr_10_231 : (Jvm.Cond.selects "SpillForgeModel$Code" ({ cls := "SpillForgeModel$Code", name := "countRows", desc := "()I" } : Jvm.MethodName) ({ cls := "SpillForgeModel$Code", name := "countRows", desc := "()I" } : Jvm.MethodName)) ∈ gw := gw_10 231 rfl rfl
theorem dr_cX17_count__101 : decode cX17_count_ 101 = .ok (.goto 4, 3) := by decide +kernel
theorem dr_cX17_count__106 : decode cX17_count_ 106 = .ok (.aload_n 0, 1) := by decide +kernel
theorem dr_cX17_count__107 : decode cX17_count_ 107 = .ok (.getfield 392, 3) := by decide +kernel
theorem wr_7_107 : (Jvm.Cond.fieldLink "SpillForgeModel" (392 : Nat) "SpillForgeModel" "reason" "I") ∈ gw := gw_7 107 rfl rfl
theorem dr_cX17_count__110 : decode cX17_count_ 110 = .ok (.ireturn, 1) := by decide +kernel
theorem dr_cX17_count__111 : decode cX17_count_ 111 = .ok (.aload_n 0, 1) := by decide +kernel
theorem dr_cX17_count__112 : decode cX17_count_ 112 = .ok (.getfield 383, 3) := by decide +kernel
theorem dr_cX17_count__115 : decode cX17_count_ 115 = .ok (.ireturn, 1) := by decide +kernel
theorem dr_cX17_count__116 : decode cX17_count_ 116 = .ok (.aload_n 0, 1) := by decide +kernel
theorem dr_cX17_count__117 : decode cX17_count_ 117 = .ok (.getfield 426, 3) := by decide +kernel
theorem wr_7_108 : (Jvm.Cond.fieldLink "SpillForgeModel" (426 : Nat) "SpillForgeModel" "results" "I") ∈ gw := gw_7 108 rfl rfl
theorem dr_cX17_count__120 : decode cX17_count_ 120 = .ok (.ireturn, 1) := by decide +kernel
theorem dr_cX17_count__121 : decode cX17_count_ 121 = .ok (.aload_n 0, 1) := by decide +kernel
theorem dr_cX17_count__122 : decode cX17_count_ 122 = .ok (.getfield 416, 3) := by decide +kernel
theorem dr_cX17_count__125 : decode cX17_count_ 125 = .ok (.ifCond .eq 13, 3) := by decide +kernel
theorem dr_cX17_count__138 : decode cX17_count_ 138 = .ok (.iconst 0, 1) := by decide +kernel
theorem dr_cX17_count__139 : decode cX17_count_ 139 = .ok (.ireturn, 1) := by decide +kernel
theorem dr_cX17_count__128 : decode cX17_count_ 128 = .ok (.aload_n 0, 1) := by decide +kernel
theorem dr_cX17_count__129 : decode cX17_count_ 129 = .ok (.getfield 365, 3) := by decide +kernel
theorem dr_cX17_count__132 : decode cX17_count_ 132 = .ok (.invokevirtual 234, 3) := by decide +kernel
theorem dr_cX17_count__135 : decode cX17_count_ 135 = .ok (.goto 4, 3) := by decide +kernel
theorem dr_cX17_count__140 : decode cX17_count_ 140 = .ok (.aload_n 0, 1) := by decide +kernel
theorem dr_cX17_count__141 : decode cX17_count_ 141 = .ok (.getfield 416, 3) := by decide +kernel
theorem dr_cX17_count__144 : decode cX17_count_ 144 = .ok (.ifCond .eq 10, 3) := by decide +kernel
theorem dr_cX17_count__154 : decode cX17_count_ 154 = .ok (.iconst 0, 1) := by decide +kernel
theorem dr_cX17_count__155 : decode cX17_count_ 155 = .ok (.ireturn, 1) := by decide +kernel
theorem dr_cX17_count__147 : decode cX17_count_ 147 = .ok (.aload_n 0, 1) := by decide +kernel
theorem dr_cX17_count__148 : decode cX17_count_ 148 = .ok (.invokevirtual 429, 3) := by decide +kernel
theorem wr_11_75 : (Jvm.Cond.methodLink "SpillForgeModel" (429 : Nat) ({ cls := "SpillForgeModel", name := "colourCount", desc := "()I" } : Jvm.MethodName)) ∈ gw := gw_11 75 rfl rfl
theorem wr_11_78 : (Jvm.Cond.code ({ cls := "SpillForgeModel", name := "colourCount", desc := "()I" } : Jvm.MethodName) prog_14_method_44_code (3 : Nat) (Option.some Jvm.ClassFile.FieldType.int)) ∈ gw := gw_11 78 rfl rfl
theorem wr_11_77 : (Jvm.Cond.instanceMethod ({ cls := "SpillForgeModel", name := "colourCount", desc := "()I" } : Jvm.MethodName)) ∈ gw := gw_11 77 rfl rfl
theorem wr_p_112 : Cond.selects "SpillForgeModel" ⟨"SpillForgeModel", "colourCount", "()I"⟩ ⟨"SpillForgeModel", "colourCount", "()I"⟩ ∈ gw := gw_p _ 112 rfl rfl rfl
theorem dr_cX17_count__151 : decode cX17_count_ 151 = .ok (.goto 4, 3) := by decide +kernel
theorem dr_cX17_count__156 : decode cX17_count_ 156 = .ok (.aload_n 0, 1) := by decide +kernel
theorem dr_cX17_count__157 : decode cX17_count_ 157 = .ok (.getfield 416, 3) := by decide +kernel
theorem dr_cX17_count__160 : decode cX17_count_ 160 = .ok (.ifCond .eq 10, 3) := by decide +kernel
theorem dr_cX17_count__170 : decode cX17_count_ 170 = .ok (.iconst 0, 1) := by decide +kernel
theorem dr_cX17_count__171 : decode cX17_count_ 171 = .ok (.ireturn, 1) := by decide +kernel
theorem dr_cX17_count__163 : decode cX17_count_ 163 = .ok (.aload_n 0, 1) := by decide +kernel
theorem dr_cX17_count__164 : decode cX17_count_ 164 = .ok (.getfield 224, 3) := by decide +kernel
theorem dr_cX17_count__167 : decode cX17_count_ 167 = .ok (.goto 4, 3) := by decide +kernel
theorem dr_cX17_count__172 : decode cX17_count_ 172 = .ok (.aload_n 0, 1) := by decide +kernel
theorem dr_cX17_count__173 : decode cX17_count_ 173 = .ok (.getfield 416, 3) := by decide +kernel
theorem dr_cX17_count__176 : decode cX17_count_ 176 = .ok (.ifCond .eq 10, 3) := by decide +kernel
theorem dr_cX17_count__186 : decode cX17_count_ 186 = .ok (.iconst 0, 1) := by decide +kernel
theorem dr_cX17_count__187 : decode cX17_count_ 187 = .ok (.ireturn, 1) := by decide +kernel
theorem dr_cX17_count__179 : decode cX17_count_ 179 = .ok (.aload_n 0, 1) := by decide +kernel
theorem dr_cX17_count__180 : decode cX17_count_ 180 = .ok (.getfield 237, 3) := by decide +kernel
theorem wr_7_86 : (Jvm.Cond.fieldLink "SpillForgeModel" (237 : Nat) "SpillForgeModel" "spilled" "I") ∈ gw := gw_7 86 rfl rfl
theorem dr_cX17_count__183 : decode cX17_count_ 183 = .ok (.goto 4, 3) := by decide +kernel
theorem dr_cX17_count__188 : decode cX17_count_ 188 = .ok (.aload_n 0, 1) := by decide +kernel
theorem dr_cX17_count__189 : decode cX17_count_ 189 = .ok (.getfield 416, 3) := by decide +kernel
theorem dr_cX17_count__192 : decode cX17_count_ 192 = .ok (.ifCond .eq 10, 3) := by decide +kernel
theorem dr_cX17_count__202 : decode cX17_count_ 202 = .ok (.iconst 0, 1) := by decide +kernel
theorem dr_cX17_count__203 : decode cX17_count_ 203 = .ok (.ireturn, 1) := by decide +kernel
theorem dr_cX17_count__195 : decode cX17_count_ 195 = .ok (.aload_n 0, 1) := by decide +kernel
theorem dr_cX17_count__196 : decode cX17_count_ 196 = .ok (.getfield 195, 3) := by decide +kernel
theorem dr_cX17_count__199 : decode cX17_count_ 199 = .ok (.goto 4, 3) := by decide +kernel
theorem dr_cX17_count__204 : decode cX17_count_ 204 = .ok (.aload_n 0, 1) := by decide +kernel
theorem dr_cX17_count__205 : decode cX17_count_ 205 = .ok (.getfield 416, 3) := by decide +kernel
theorem dr_cX17_count__208 : decode cX17_count_ 208 = .ok (.ifCond .eq 15, 3) := by decide +kernel
theorem dr_cX17_count__223 : decode cX17_count_ 223 = .ok (.iconst 0, 1) := by decide +kernel
theorem dr_cX17_count__224 : decode cX17_count_ 224 = .ok (.ireturn, 1) := by decide +kernel
theorem dr_cX17_count__211 : decode cX17_count_ 211 = .ok (.aload_n 0, 1) := by decide +kernel
theorem dr_cX17_count__212 : decode cX17_count_ 212 = .ok (.getfield 365, 3) := by decide +kernel
theorem dr_cX17_count__215 : decode cX17_count_ 215 = .ok (.bipush 21, 2) := by decide +kernel
theorem dr_cX17_count__217 : decode cX17_count_ 217 = .ok (.invokevirtual 432, 3) := by decide +kernel
theorem wr_11_79 : (Jvm.Cond.methodLink "SpillForgeModel" (432 : Nat) ({ cls := "SpillForgeModel$Code", name := "count", desc := "(I)I" } : Jvm.MethodName)) ∈ gw := gw_11 79 rfl rfl
theorem wr_11_82 : (Jvm.Cond.code ({ cls := "SpillForgeModel$Code", name := "count", desc := "(I)I" } : Jvm.MethodName) prog_16_method_8_code (5 : Nat) (Option.some Jvm.ClassFile.FieldType.int)) ∈ gw := gw_11 82 rfl rfl
theorem wr_11_80 : (Jvm.Cond.instanceMethod ({ cls := "SpillForgeModel$Code", name := "count", desc := "(I)I" } : Jvm.MethodName)) ∈ gw := gw_11 80 rfl rfl
theorem wr_11_81 : (Jvm.Cond.selects "SpillForgeModel$Code" ({ cls := "SpillForgeModel$Code", name := "count", desc := "(I)I" } : Jvm.MethodName) ({ cls := "SpillForgeModel$Code", name := "count", desc := "(I)I" } : Jvm.MethodName)) ∈ gw := gw_11 81 rfl rfl
theorem dr_cX17_count__220 : decode cX17_count_ 220 = .ok (.goto 4, 3) := by decide +kernel
theorem dr_cX17_count__225 : decode cX17_count_ 225 = .ok (.aload_n 0, 1) := by decide +kernel
theorem dr_cX17_count__226 : decode cX17_count_ 226 = .ok (.getfield 416, 3) := by decide +kernel
theorem dr_cX17_count__229 : decode cX17_count_ 229 = .ok (.ifCond .eq 15, 3) := by decide +kernel
theorem dr_cX17_count__244 : decode cX17_count_ 244 = .ok (.iconst 0, 1) := by decide +kernel
theorem dr_cX17_count__245 : decode cX17_count_ 245 = .ok (.ireturn, 1) := by decide +kernel
theorem dr_cX17_count__232 : decode cX17_count_ 232 = .ok (.aload_n 0, 1) := by decide +kernel
theorem dr_cX17_count__233 : decode cX17_count_ 233 = .ok (.getfield 365, 3) := by decide +kernel
theorem dr_cX17_count__236 : decode cX17_count_ 236 = .ok (.bipush 23, 2) := by decide +kernel
theorem dr_cX17_count__238 : decode cX17_count_ 238 = .ok (.invokevirtual 432, 3) := by decide +kernel
theorem dr_cX17_count__241 : decode cX17_count_ 241 = .ok (.goto 4, 3) := by decide +kernel
theorem dr_cX17_count__246 : decode cX17_count_ 246 = .ok (.aload_n 0, 1) := by decide +kernel
theorem dr_cX17_count__247 : decode cX17_count_ 247 = .ok (.iconst 1, 1) := by decide +kernel
theorem dr_cX17_count__248 : decode cX17_count_ 248 = .ok (.invokevirtual 385, 3) := by decide +kernel
theorem dr_cX17_count__251 : decode cX17_count_ 251 = .ok (.ireturn, 1) := by decide +kernel
abbrev ky_588611_SpillForgeModel_colourCount : gKey := (cX17_colourCount, 3, "SpillForgeModel", (some FieldType.int), [], "colourCount", fun _ _ => True)
def pt_588611_SpillForgeModel_colourCount (D : va_G) (I : FieldType → ClassId) (γ el : Nat → Nat → Nat) (P588607 : List Nat) (F588608 : Nat → va_E) (q588609 : Nat) : Option Value → va_W → Nat → Nat → Prop := fun r w dc ds => ∃ (F588863 : Nat → va_E) (o588862 : Int32), r = some (.int o588862) ∧ w = va_pl P588607 F588863 ∧ RS D I P588607 F588863 γ el ∧ rStr γ [] F588608 F588863 ∧ dc ≤ 0 ∧ ds ≤ 0 ∧ (F588863 q588609 = F588608 q588609)
set_option maxRecDepth 100000 in
set_option maxHeartbeats 4000000 in
theorem ct_588611_SpillForgeModel_colourCount (l : Launch) (hl0 : l.stackTraces = false) (D : va_G) (I : FieldType → ClassId) (γ el : Nat → Nat → Nat) (P588607 : List Nat) (F588608 : Nat → va_E) (q588609 : Nat) (hT : RS D I P588607 F588608 γ el) (htq588609 : rKd γ q588609 10) (x588610 : 0 < γ 6 1) : CtA (gV D I) l yX17_colourCount cX17_colourCount 3 (some FieldType.int) 6 141 0 0 [.ref q588609] (va_pl P588607 F588608) (pt_588611_SpillForgeModel_colourCount D I γ el P588607 F588608 q588609) gNA := by
  refine CtA_of hl0 (by decide) (Nat.le_of_ble_eq_true rfl) ?_
  have hm588612 : q588609 ∈ P588607 := RS_m hT htq588609 (by decide)
  refine rk10_e (show rk_10 γ (F588608 q588609) from RS_o hT htq588609) (fun q588614 q588615 p588616 p588617 p588618 p588619 p588620 p588621 p588622 p588623 p588624 p588625 p588626 p588627 p588628 p588629 p588630 he588613 hB588657 ht588631 ht588632 ht588633 ht588634 ht588635 ht588636 ht588637 ht588638 ht588639 ht588640 ht588641 ht588642 ht588643 ht588644 ht588645 ht588646 ht588647 ht588648 ht588649 ht588650 ht588651 ht588652 ht588653 ht588654 hB588658 => ?_)
  have fq588659 : γ 6 (γ 1 (γ 9 6)) = γ 6 0 := by rw [show γ 1 (γ 9 6) = 0 from ht588652]
  have fq588660 : γ 6 (γ 1 (γ 9 7)) = γ 6 1 := by rw [show γ 1 (γ 9 7) = 1 from ht588653]
  have fq588661 : γ 6 (γ 1 (γ 9 8)) = γ 6 2 := by rw [show γ 1 (γ 9 8) = 2 from ht588654]
  have r588662 : p588630.toInt ≤ γ 12 q588615 := by have z := hB588658; unfold rM2 at z; exact z.2.2
  refine G_iconst 0 dr_cX17_colourCount_0 (by decide +kernel) ?_
  refine G_istore_n (L' := [(1, .int 0), (0, .ref q588609)]) dr_cX17_colourCount_1 (Nat.le_of_ble_eq_true rfl) rfl ?_
  refine G_aload_n 1 dr_cX17_colourCount_2 rfl ?_
  refine G_aload_n 1 dr_cX17_colourCount_3 rfl ?_
  refine Gp_get 7 hm588612 he588613 dr_cX17_colourCount_4 (gk_X17 D I) (Nat.le_of_ble_eq_true rfl) wr_7_81 rfl ?_
  refine G_iconst 0 dr_cX17_colourCount_7 (by decide +kernel) ?_
  refine Gw_callV (As := [.ref (γ 9 7), .int 0]) (gV_ok D I) (ct_277516_SpillForgeModel_graph l hl0 D I γ el P588607 F588608 q588609 (γ 9 7) 0 hT htq588609 ht588640 (gB_w (gBl (show Int32.toInt 0 = 0 by decide)) (by decide) (by decide)) (by have qa0 : Int32.toInt 0 = 0 := (by decide); omega)) dr_cX17_colourCount_8 ⟨wr_10_233, wr_1_14, wr_10_236, by decide, rfl, (Nat.le_of_ble_eq_true rfl), (Nat.le_of_ble_eq_true rfl)⟩ wr_10_235 wr_p_99 hm588612 he588613 rfl (show 0 + 0 ≤ 0 by first | omega | decide) (show 0 + 0 ≤ 0 by first | omega | decide) (Nat.le_of_ble_eq_true rfl) (fun r588666 w588667 dc588663 ds588664 hp588665 => ?_) (fun _ _ _ _ _ z => z.elim)
  obtain ⟨F588671, rfl, rfl, hT588672, hs588673, hdc, hds, x588668, x588669, ht588670⟩ := hp588665
  have hs588674 : rStr γ [] F588608 F588671 := rStr_tr (rStr_rf (γ := γ) (W := []) (F := F588608)) hs588673
  have kp588675 : F588671 q588609 = F588608 q588609 := x588669
  have he588676 : F588671 q588609 = .inr (22, [.ref (γ 9 0), .ref (γ 9 1), .ref (γ 9 2), .ref (γ 9 3), .ref (γ 9 4), .ref (γ 9 5), .ref (γ 9 6), .ref (γ 9 7), .ref (γ 9 8), .int p588616, .int p588617, .int p588618, .int p588619, .int p588620, .int p588621, .ref (γ 9 15), .ref (γ 9 16), .ref (γ 9 17), .ref (γ 9 18), .ref (γ 9 19), .ref (γ 9 20), .ref (γ 9 21), .ref (γ 9 22), .int p588622, .int p588623, .int p588624, .int p588625, .int p588626, .ref q588614, .ref (γ 9 29), .int p588627, .ref (γ 9 31), .int p588628, .int p588629, .int p588630, .ref q588615]) := (x588669).trans he588613
  rw [show Int32.toInt 0 = 0 from by decide] at x588668
  change G _ _ _ _ _ _ _ _ _ _ _
  refine G_widen (cs' := 0) (sl' := 0) (by omega) (by omega) ?_
  refine G_iconst 0 dr_cX17_colourCount_11 (by decide +kernel) ?_
  refine G_istore_n (L' := [(2, .int 0), (1, .int 0), (0, .ref q588609)]) dr_cX17_colourCount_12 (Nat.le_of_ble_eq_true rfl) rfl ?_
  have hlp13_588846 : ∀ (n13_588846 : Nat) (g588845 : Int32) (g588846 : Int32), gB g588845 0 2000 → ((2001 : Int) - g588845.toInt).toNat < n13_588846 → G (gV D I) l (gRm 6 141 0 0) (gMA (gV D I) (pt_588611_SpillForgeModel_colourCount D I γ el P588607 F588608 q588609) gNA 0 0) ky_588611_SpillForgeModel_colourCount 13 [(2, .int g588845), (1, .int g588846), (0, .ref q588609)] [] (va_pl P588607 F588671) 0 0 := by
    intro n13_588846
    induction n13_588846 with
    | zero => intro g588845 g588846 bg588845 hm13_588846; exact absurd hm13_588846 (Nat.not_lt_zero _)
    | succ n13_588846 ih13_588846 =>
      intro g588845 g588846 bg588845 hm13_588846
      have bg588846 := gB_any g588846
      refine G_iload_n 0 dr_cX17_colourCount_13 rfl ?_
      refine G_sipush 2000 dr_cX17_colourCount_14 (by decide +kernel) ?_
      refine G_icmp_ge 43 dr_cX17_colourCount_17 (by decide +kernel) (fun hc588848 => ?_) (fun hc588848 => ?_)
      · have r588849 : 2000 ≤ g588845.toInt := gj_leL hc588848 (show Int32.toInt 2000 = 2000 by decide)
        have bg588845' : gB g588845 2000 2000 := ⟨by omega, by omega⟩
        refine G_iload_n 1 dr_cX17_colourCount_43 rfl ?_
        exact G_iretA dr_cX17_colourCount_44 rfl (Nat.le_of_ble_eq_true rfl) (Nat.le_of_ble_eq_true rfl) ⟨F588671, g588846, rfl, rfl, hT588672, hs588674, (Nat.le_of_ble_eq_true rfl), (Nat.le_of_ble_eq_true rfl), kp588675⟩
      · have r588850 : g588845.toInt < 2000 := gj_nleL hc588848 (show Int32.toInt 2000 = 2000 by decide)
        have bg588845' : gB g588845 0 1999 := ⟨by omega, by omega⟩
        refine G_iload_n 1 dr_cX17_colourCount_20 rfl ?_
        refine G_aload_n 2 dr_cX17_colourCount_21 rfl ?_
        refine Gp_get 3 hm588612 he588676 dr_cX17_colourCount_22 (gk_X17 D I) (Nat.le_of_ble_eq_true rfl) wr_7_77 rfl ?_
        refine G_iload_n 0 dr_cX17_colourCount_25 rfl ?_
        have hm588851 : (γ 9 3) ∈ P588607 := RS_m hT588672 ht588636 (by decide)
        obtain ⟨f588853, he588852, bf588853⟩ := show rk_14 I (F588671 (γ 9 3)) from RS_o hT588672 ht588636
        refine Gp_zald 3 hm588851 he588852 dr_cX17_colourCount_26 rfl (gB_in bg588845' (by decide) (by decide)) (G_nam fun z588854 hz588854 => ?_)
        have bz588854 : gB z588854 0 1 := by rw [hz588854]; exact bf588853 _
        refine G_if_eq 34 dr_cX17_colourCount_27 (by decide +kernel) (fun hc588855 => ?_) (fun hc588855 => ?_)
        · have r588856 : z588854.toInt = 0 := gj_eq hc588855 (show Int32.toInt 0 = 0 by decide)
          have bz588854' : gB z588854 0 0 := gB_t0 r588856
          refine G_iconst 0 dr_cX17_colourCount_34 (by decide +kernel) ?_
          refine G_iadd dr_cX17_colourCount_35 (G_nam fun z588857 hz588857 => ?_)
          have ez588857 : z588857.toInt = g588846.toInt + 0 := by rw [gI_add hz588857 bg588846 (gBl (show Int32.toInt 0 = 0 by decide)) (by decide) (by decide), show Int32.toInt 0 = 0 from by decide]
          have bz588857 : gB z588857 (-2147483648) 2147483647 := gB_add (gI_add hz588857 bg588846 (gBl (show Int32.toInt 0 = 0 by decide)) (by decide) (by decide)) bg588846 (gBl (show Int32.toInt 0 = 0 by decide)) (by decide) (by decide)
          refine G_istore_n (L' := [(1, .int z588857), (2, .int g588845), (0, .ref q588609)]) dr_cX17_colourCount_36 (Nat.le_of_ble_eq_true rfl) rfl ?_
          obtain ⟨z588858, hz588858⟩ : ∃ z : Int32, z = g588845 + Int32.ofInt 1 := ⟨_, rfl⟩
          have ez588858 : z588858.toInt = g588845.toInt + 1 := gI_inc hz588858 (by decide) bg588845' (by decide) (by decide)
          have bz588858 : gB z588858 1 2000 := ⟨by omega, by omega⟩
          refine G_iinc (L' := [(2, .int z588858), (1, .int z588857), (0, .ref q588609)]) z588858 1 dr_cX17_colourCount_37 rfl hz588858.symm (Nat.le_of_ble_eq_true rfl) rfl ?_
          refine G_goto 13 dr_cX17_colourCount_40 (by decide +kernel) ?_
          exact ih13_588846 z588858 z588857 (gB_w bz588858 (by decide) (by decide)) (mz_up ez588858 (Int.le_trans bg588845'.2 (by decide)) hm13_588846)
        · have r588859 : z588854.toInt ≠ 0 := gj_neq hc588855 (show Int32.toInt 0 = 0 by decide)
          have bz588854' : gB z588854 1 1 := gB_t1 bz588854 r588859
          refine G_iconst 1 dr_cX17_colourCount_30 (by decide +kernel) ?_
          refine G_goto 35 dr_cX17_colourCount_31 (by decide +kernel) ?_
          refine G_iadd dr_cX17_colourCount_35 (G_nam fun z588860 hz588860 => ?_)
          have bz588860 : gB z588860 (-2147483648) 2147483647 := gB_any z588860
          refine G_istore_n (L' := [(1, .int z588860), (2, .int g588845), (0, .ref q588609)]) dr_cX17_colourCount_36 (Nat.le_of_ble_eq_true rfl) rfl ?_
          obtain ⟨z588861, hz588861⟩ : ∃ z : Int32, z = g588845 + Int32.ofInt 1 := ⟨_, rfl⟩
          have ez588861 : z588861.toInt = g588845.toInt + 1 := gI_inc hz588861 (by decide) bg588845' (by decide) (by decide)
          have bz588861 : gB z588861 1 2000 := ⟨by omega, by omega⟩
          refine G_iinc (L' := [(2, .int z588861), (1, .int z588860), (0, .ref q588609)]) z588861 1 dr_cX17_colourCount_37 rfl hz588861.symm (Nat.le_of_ble_eq_true rfl) rfl ?_
          refine G_goto 13 dr_cX17_colourCount_40 (by decide +kernel) ?_
          exact ih13_588846 z588861 z588860 (gB_w bz588861 (by decide) (by decide)) (mz_up ez588861 (Int.le_trans bg588845'.2 (by decide)) hm13_588846)
  exact hlp13_588846 (((2001 : Int) - 0).toNat + 1) 0 0 (gB_w (gBl (show Int32.toInt 0 = 0 by decide)) (by decide) (by decide)) (Nat.lt_succ_self _)
abbrev ky_588402_SpillForgeModel_count : gKey := (cX17_count_, 2, "SpillForgeModel", (some FieldType.int), [], "count", fun _ _ => True)
def pt_588402_SpillForgeModel_count (D : va_G) (I : FieldType → ClassId) (γ el : Nat → Nat → Nat) (P588396 : List Nat) (F588397 : Nat → va_E) (q588398 : Nat) (p588399 : Int32) : Option Value → va_W → Nat → Nat → Prop := fun r w dc ds => ∃ (F589073 : Nat → va_E) (o589072 : Int32), r = some (.int o589072) ∧ w = va_pl P588396 F589073 ∧ RS D I P588396 F589073 γ el ∧ rStr γ [] F588397 F589073 ∧ dc ≤ 0 ∧ ds ≤ 0 ∧ (fI (F589073 q588398) 9).toInt = (fI (F588397 q588398) 9).toInt ∧ (fI (F589073 q588398) 10).toInt = (fI (F588397 q588398) 10).toInt ∧ (fI (F589073 q588398) 32).toInt = (fI (F588397 q588398) 32).toInt
set_option maxRecDepth 100000 in
set_option maxHeartbeats 4000000 in
theorem ct_588402_SpillForgeModel_count (l : Launch) (hl0 : l.stackTraces = false) (D : va_G) (I : FieldType → ClassId) (γ el : Nat → Nat → Nat) (P588396 : List Nat) (F588397 : Nat → va_E) (q588398 : Nat) (p588399 : Int32) (hT : RS D I P588396 F588397 γ el) (htq588398 : rKd γ q588398 10) (x588400 : ((fI (F588397 q588398) 9).toInt = 0 ∨ 0 < γ 6 0)) (x588401 : ((fI (F588397 q588398) 10).toInt = 0 ∨ 0 < γ 6 1)) : CtA (gV D I) l yX17_count_ cX17_count_ 2 (some FieldType.int) 7 163 0 0 [.ref q588398, .int p588399] (va_pl P588396 F588397) (pt_588402_SpillForgeModel_count D I γ el P588396 F588397 q588398 p588399) gNA := by
  refine CtA_of hl0 (by decide) (Nat.le_of_ble_eq_true rfl) ?_
  have bp588399 := gB_any p588399
  have hm588403 : q588398 ∈ P588396 := RS_m hT htq588398 (by decide)
  refine rk10_e (show rk_10 γ (F588397 q588398) from RS_o hT htq588398) (fun q588405 q588406 p588407 p588408 p588409 p588410 p588411 p588412 p588413 p588414 p588415 p588416 p588417 p588418 p588419 p588420 p588421 he588404 hB588448 ht588422 ht588423 ht588424 ht588425 ht588426 ht588427 ht588428 ht588429 ht588430 ht588431 ht588432 ht588433 ht588434 ht588435 ht588436 ht588437 ht588438 ht588439 ht588440 ht588441 ht588442 ht588443 ht588444 ht588445 hB588449 => ?_)
  have ac588450 : (fI (F588397 q588398) 9).toInt = p588407.toInt := by rw [he588404]; rfl
  have bp588407 : gB p588407 0 1 := (hB588448.1)
  have ac588451 : (fI (F588397 q588398) 10).toInt = p588408.toInt := by rw [he588404]; rfl
  have bp588408 : gB p588408 0 1 := (hB588448.2.1)
  have ac588452 : (fI (F588397 q588398) 32).toInt = p588419.toInt := by rw [he588404]; rfl
  have bp588419 : gB p588419 0 8192 := (hB588448.2.2.2.2.2.2.2.1)
  have fq588453 : γ 6 (γ 1 (γ 9 6)) = γ 6 0 := by rw [show γ 1 (γ 9 6) = 0 from ht588443]
  have fq588454 : γ 6 (γ 1 (γ 9 7)) = γ 6 1 := by rw [show γ 1 (γ 9 7) = 1 from ht588444]
  have fq588455 : γ 6 (γ 1 (γ 9 8)) = γ 6 2 := by rw [show γ 1 (γ 9 8) = 2 from ht588445]
  have r588456 : p588421.toInt ≤ γ 12 q588406 := by have z := hB588449; unfold rM2 at z; exact z.2.2
  refine G_aload_n 0 dr_cX17_count__0 rfl ?_
  refine G_iconst 0 dr_cX17_count__1 (by decide +kernel) ?_
  refine Gp_put 30 hm588403 he588404 dr_cX17_count__2 (gk_X17 D I) (Nat.le_of_ble_eq_true rfl) wr_7_104 rfl rfl rfl (Nat.le_of_ble_eq_true rfl) (fun F588457 e588458 n588459 => ?_)
  have he588460 : F588457 q588398 = .inr (22, [.ref (γ 9 0), .ref (γ 9 1), .ref (γ 9 2), .ref (γ 9 3), .ref (γ 9 4), .ref (γ 9 5), .ref (γ 9 6), .ref (γ 9 7), .ref (γ 9 8), .int p588407, .int p588408, .int p588409, .int p588410, .int p588411, .int p588412, .ref (γ 9 15), .ref (γ 9 16), .ref (γ 9 17), .ref (γ 9 18), .ref (γ 9 19), .ref (γ 9 20), .ref (γ 9 21), .ref (γ 9 22), .int p588413, .int p588414, .int p588415, .int p588416, .int p588417, .ref q588405, .ref (γ 9 29), .int 0, .ref (γ 9 31), .int p588419, .int p588420, .int p588421, .ref q588406]) := e588458
  have hs588461 : rStr γ [] F588397 F588457 := rStr_put (rStr_rf (γ := γ) (W := []) (F := F588397)) n588459 htq588398 (by decide)
  refine G_iload_n 1 dr_cX17_count__5 rfl ?_
  by_cases hs588462 : p588399 = 0
  · have ehs588462 : p588399.toInt = 0 := gj_eq hs588462 (show Int32.toInt 0 = 0 by decide)
    have bp588399' : gB p588399 0 0 := ⟨by omega, by omega⟩
    refine G_eqi (y := 0) hs588462 ?_
    refine G_tableIn 68 dr_cX17_count__6 (by decide) (by decide) (by first | rfl | decide) (by decide) ?_
    refine G_aload_n 0 dr_cX17_count__68 rfl ?_
    refine Gp_get 9 hm588403 he588460 dr_cX17_count__69 (gk_X17 D I) (Nat.le_of_ble_eq_true rfl) wr_7_83 rfl ?_
    refine G_if_eq 85 dr_cX17_count__72 (by decide +kernel) (fun hc588463 => ?_) (fun hc588463 => ?_)
    · have r588464 : p588407.toInt = 0 := gj_eq hc588463 (show Int32.toInt 0 = 0 by decide)
      have bp588407' : gB p588407 0 0 := gB_t0 r588464
      refine G_iconst 0 dr_cX17_count__85 (by decide +kernel) ?_
      have hT588465 : RS D I P588396 F588457 γ el := RS_set hT n588459 htq588398 (by decide) ⟨q588405, q588406, p588407, p588408, p588409, p588410, p588411, p588412, p588413, p588414, p588415, p588416, p588417, 0, p588419, p588420, p588421, he588460, ⟨(gB_w bp588407' (by decide) (by decide)), bp588408, (hB588448.2.2.1), (hB588448.2.2.2.1), (hB588448.2.2.2.2.1), (hB588448.2.2.2.2.2.1), (hB588448.2.2.2.2.2.2.1), bp588419, (hB588448.2.2.2.2.2.2.2.2)⟩, ht588422, ht588423, ht588424, ht588425, ht588426, ht588427, ht588428, ht588429, ht588430, ht588431, ht588432, ht588433, ht588434, ht588435, ht588436, ht588437, ht588438, ht588439, ht588440, ht588441, ht588442, ht588443, ht588444, ht588445, hB588449⟩
      have ac588466 : (fI (F588457 q588398) 9).toInt = p588407.toInt := by rw [he588460]; rfl
      have ac588467 : (fI (F588457 q588398) 10).toInt = p588408.toInt := by rw [he588460]; rfl
      have ac588468 : (fI (F588457 q588398) 32).toInt = p588419.toInt := by rw [he588460]; rfl
      exact G_iretA dr_cX17_count__86 rfl (Nat.le_of_ble_eq_true rfl) (Nat.le_of_ble_eq_true rfl) ⟨F588457, 0, rfl, rfl, hT588465, hs588461, (Nat.le_of_ble_eq_true rfl), (Nat.le_of_ble_eq_true rfl), (by have qa0 : Int32.toInt 0 = 0 := (by decide); omega), (by have qa0 : Int32.toInt 0 = 0 := (by decide); omega), (by have qa0 : Int32.toInt 0 = 0 := (by decide); omega)⟩
    · have r588469 : p588407.toInt ≠ 0 := gj_neq hc588463 (show Int32.toInt 0 = 0 by decide)
      have bp588407' : gB p588407 1 1 := gB_t1 bp588407 r588469
      refine G_aload_n 0 dr_cX17_count__75 rfl ?_
      refine Gp_get 6 hm588403 he588460 dr_cX17_count__76 (gk_X17 D I) (Nat.le_of_ble_eq_true rfl) wr_7_80 rfl ?_
      have hT588470 : RS D I P588396 F588457 γ el := RS_set hT n588459 htq588398 (by decide) ⟨q588405, q588406, p588407, p588408, p588409, p588410, p588411, p588412, p588413, p588414, p588415, p588416, p588417, 0, p588419, p588420, p588421, he588460, ⟨(gB_w bp588407' (by decide) (by decide)), bp588408, (hB588448.2.2.1), (hB588448.2.2.2.1), (hB588448.2.2.2.2.1), (hB588448.2.2.2.2.2.1), (hB588448.2.2.2.2.2.2.1), bp588419, (hB588448.2.2.2.2.2.2.2.2)⟩, ht588422, ht588423, ht588424, ht588425, ht588426, ht588427, ht588428, ht588429, ht588430, ht588431, ht588432, ht588433, ht588434, ht588435, ht588436, ht588437, ht588438, ht588439, ht588440, ht588441, ht588442, ht588443, ht588444, ht588445, hB588449⟩
      have hm588471 : (γ 9 6) ∈ P588396 := RS_m hT588470 ht588430 (by decide)
      obtain ⟨q588473, q588474, p588475, p588476, he588472, ht588492, ht588477, ht588478, ht588479, ht588480, r588481, r588482, r588483, r588484, r588485, r588486, r588487, r588488, r588489, r588490, r588491⟩ := show rk_9 γ el (γ 9 6) (F588457 (γ 9 6)) from RS_o hT588470 ht588430
      have bp588475 : gB p588475 0 1000000 := ⟨by omega, by omega⟩
      have bp588476 : gB p588476 0 1000000 := ⟨by omega, by omega⟩
      refine Gw_callV (As := []) (gV_ok D I) (cp_12780_Code_size l hl0 D I P588396 F588457 (γ 9 6) q588473 q588474 p588475 p588476 hm588471 he588472) dr_cX17_count__79 ⟨wr_10_160, wr_1_15, wr_9_131, by decide, rfl, (Nat.le_of_ble_eq_true rfl), (Nat.le_of_ble_eq_true rfl)⟩ wr_9_129 wr_9_130 hm588471 he588472 rfl (show 0 + 0 ≤ 0 by first | omega | decide) (show 0 + 0 ≤ 0 by first | omega | decide) (Nat.le_of_ble_eq_true rfl) (fun r588496 w588497 dc588493 ds588494 hp588495 => ?_) (fun _ _ _ _ _ z => z.elim)
      obtain ⟨rfl, rfl, hdc, hds⟩ := hp588495
      change G _ _ _ _ _ _ _ (.int p588476 :: _) _ _ _
      refine G_widen (cs' := 0) (sl' := 0) (by omega) (by omega) ?_
      refine G_goto 86 dr_cX17_count__82 (by decide +kernel) ?_
      have ac588498 : (fI (F588457 q588398) 9).toInt = p588407.toInt := by rw [he588460]; rfl
      have ac588499 : (fI (F588457 q588398) 10).toInt = p588408.toInt := by rw [he588460]; rfl
      have ac588500 : (fI (F588457 q588398) 32).toInt = p588419.toInt := by rw [he588460]; rfl
      exact G_iretA dr_cX17_count__86 rfl (Nat.le_of_ble_eq_true rfl) (Nat.le_of_ble_eq_true rfl) ⟨F588457, p588476, rfl, rfl, hT588470, hs588461, (Nat.le_of_ble_eq_true rfl), (Nat.le_of_ble_eq_true rfl), (by omega), (by omega), (by omega)⟩
  by_cases hs588501 : p588399 = 1
  · have ehs588501 : p588399.toInt = 1 := gj_eq hs588501 (show Int32.toInt 1 = 1 by decide)
    have bp588399' : gB p588399 1 1 := ⟨by omega, by omega⟩
    refine G_eqi (y := 1) hs588501 ?_
    refine G_tableIn 87 dr_cX17_count__6 (by decide) (by decide) (by first | rfl | decide) (by decide) ?_
    refine G_aload_n 0 dr_cX17_count__87 rfl ?_
    refine Gp_get 9 hm588403 he588460 dr_cX17_count__88 (gk_X17 D I) (Nat.le_of_ble_eq_true rfl) wr_7_83 rfl ?_
    refine G_if_eq 104 dr_cX17_count__91 (by decide +kernel) (fun hc588502 => ?_) (fun hc588502 => ?_)
    · have r588503 : p588407.toInt = 0 := gj_eq hc588502 (show Int32.toInt 0 = 0 by decide)
      have bp588407' : gB p588407 0 0 := gB_t0 r588503
      refine G_iconst 0 dr_cX17_count__104 (by decide +kernel) ?_
      have hT588504 : RS D I P588396 F588457 γ el := RS_set hT n588459 htq588398 (by decide) ⟨q588405, q588406, p588407, p588408, p588409, p588410, p588411, p588412, p588413, p588414, p588415, p588416, p588417, 0, p588419, p588420, p588421, he588460, ⟨(gB_w bp588407' (by decide) (by decide)), bp588408, (hB588448.2.2.1), (hB588448.2.2.2.1), (hB588448.2.2.2.2.1), (hB588448.2.2.2.2.2.1), (hB588448.2.2.2.2.2.2.1), bp588419, (hB588448.2.2.2.2.2.2.2.2)⟩, ht588422, ht588423, ht588424, ht588425, ht588426, ht588427, ht588428, ht588429, ht588430, ht588431, ht588432, ht588433, ht588434, ht588435, ht588436, ht588437, ht588438, ht588439, ht588440, ht588441, ht588442, ht588443, ht588444, ht588445, hB588449⟩
      have ac588505 : (fI (F588457 q588398) 9).toInt = p588407.toInt := by rw [he588460]; rfl
      have ac588506 : (fI (F588457 q588398) 10).toInt = p588408.toInt := by rw [he588460]; rfl
      have ac588507 : (fI (F588457 q588398) 32).toInt = p588419.toInt := by rw [he588460]; rfl
      exact G_iretA dr_cX17_count__105 rfl (Nat.le_of_ble_eq_true rfl) (Nat.le_of_ble_eq_true rfl) ⟨F588457, 0, rfl, rfl, hT588504, hs588461, (Nat.le_of_ble_eq_true rfl), (Nat.le_of_ble_eq_true rfl), (by have qa0 : Int32.toInt 0 = 0 := (by decide); omega), (by have qa0 : Int32.toInt 0 = 0 := (by decide); omega), (by have qa0 : Int32.toInt 0 = 0 := (by decide); omega)⟩
    · have r588508 : p588407.toInt ≠ 0 := gj_neq hc588502 (show Int32.toInt 0 = 0 by decide)
      have bp588407' : gB p588407 1 1 := gB_t1 bp588407 r588508
      refine G_aload_n 0 dr_cX17_count__94 rfl ?_
      refine Gp_get 6 hm588403 he588460 dr_cX17_count__95 (gk_X17 D I) (Nat.le_of_ble_eq_true rfl) wr_7_80 rfl ?_
      have hT588509 : RS D I P588396 F588457 γ el := RS_set hT n588459 htq588398 (by decide) ⟨q588405, q588406, p588407, p588408, p588409, p588410, p588411, p588412, p588413, p588414, p588415, p588416, p588417, 0, p588419, p588420, p588421, he588460, ⟨(gB_w bp588407' (by decide) (by decide)), bp588408, (hB588448.2.2.1), (hB588448.2.2.2.1), (hB588448.2.2.2.2.1), (hB588448.2.2.2.2.2.1), (hB588448.2.2.2.2.2.2.1), bp588419, (hB588448.2.2.2.2.2.2.2.2)⟩, ht588422, ht588423, ht588424, ht588425, ht588426, ht588427, ht588428, ht588429, ht588430, ht588431, ht588432, ht588433, ht588434, ht588435, ht588436, ht588437, ht588438, ht588439, ht588440, ht588441, ht588442, ht588443, ht588444, ht588445, hB588449⟩
      have hm588515 : (γ 9 6) ∈ P588396 := RS_m hT588509 ht588430 (by decide)
      obtain ⟨q588517, q588518, p588519, p588520, he588516, ht588536, ht588521, ht588522, ht588523, ht588524, r588525, r588526, r588527, r588528, r588529, r588530, r588531, r588532, r588533, r588534, r588535⟩ := show rk_9 γ el (γ 9 6) (F588457 (γ 9 6)) from RS_o hT588509 ht588430
      have bp588519 : gB p588519 0 1000000 := ⟨by omega, by omega⟩
      have bp588520 : gB p588520 0 1000000 := ⟨by omega, by omega⟩
      refine Gw_callV (As := []) (gV_ok D I) (ct_7810_Code_countRows l hl0 D I γ el P588396 F588457 (γ 9 6) hT588509 ht588430 (by have qa0 : Int32.toInt 0 = 0 := (by decide); omega)) dr_cX17_count__98 ⟨wr_10_229, wr_1_15, wr_10_232, by decide, rfl, (Nat.le_of_ble_eq_true rfl), (Nat.le_of_ble_eq_true rfl)⟩ wr_10_230 wr_10_231 hm588515 he588516 rfl (show 0 + 0 ≤ 0 by first | omega | decide) (show 0 + 0 ≤ 0 by first | omega | decide) (Nat.le_of_ble_eq_true rfl) (fun r588513 w588514 dc588510 ds588511 hp588512 => ?_) (fun _ _ _ _ _ z => z.elim)
      obtain ⟨o588537, rfl, rfl, hdc, hds, ht588538⟩ := hp588512
      have bo588537 := gB_any o588537
      change G _ _ _ _ _ _ _ (.int o588537 :: _) _ _ _
      refine G_widen (cs' := 0) (sl' := 0) (by omega) (by omega) ?_
      refine G_goto 105 dr_cX17_count__101 (by decide +kernel) ?_
      have ac588539 : (fI (F588457 q588398) 9).toInt = p588407.toInt := by rw [he588460]; rfl
      have ac588540 : (fI (F588457 q588398) 10).toInt = p588408.toInt := by rw [he588460]; rfl
      have ac588541 : (fI (F588457 q588398) 32).toInt = p588419.toInt := by rw [he588460]; rfl
      exact G_iretA dr_cX17_count__105 rfl (Nat.le_of_ble_eq_true rfl) (Nat.le_of_ble_eq_true rfl) ⟨F588457, o588537, rfl, rfl, hT588509, hs588461, (Nat.le_of_ble_eq_true rfl), (Nat.le_of_ble_eq_true rfl), (by omega), (by omega), (by omega)⟩
  by_cases hs588542 : p588399 = 2
  · have ehs588542 : p588399.toInt = 2 := gj_eq hs588542 (show Int32.toInt 2 = 2 by decide)
    have bp588399' : gB p588399 2 2 := ⟨by omega, by omega⟩
    refine G_eqi (y := 2) hs588542 ?_
    refine G_tableIn 106 dr_cX17_count__6 (by decide) (by decide) (by first | rfl | decide) (by decide) ?_
    refine G_aload_n 0 dr_cX17_count__106 rfl ?_
    refine Gp_get 33 hm588403 he588460 dr_cX17_count__107 (gk_X17 D I) (Nat.le_of_ble_eq_true rfl) wr_7_107 rfl ?_
    have bp588420 : gB p588420 (-2147483648) 2147483647 := (gB_any p588420)
    have hT588543 : RS D I P588396 F588457 γ el := RS_set hT n588459 htq588398 (by decide) ⟨q588405, q588406, p588407, p588408, p588409, p588410, p588411, p588412, p588413, p588414, p588415, p588416, p588417, 0, p588419, p588420, p588421, he588460, ⟨bp588407, bp588408, (hB588448.2.2.1), (hB588448.2.2.2.1), (hB588448.2.2.2.2.1), (hB588448.2.2.2.2.2.1), (hB588448.2.2.2.2.2.2.1), bp588419, (hB588448.2.2.2.2.2.2.2.2)⟩, ht588422, ht588423, ht588424, ht588425, ht588426, ht588427, ht588428, ht588429, ht588430, ht588431, ht588432, ht588433, ht588434, ht588435, ht588436, ht588437, ht588438, ht588439, ht588440, ht588441, ht588442, ht588443, ht588444, ht588445, hB588449⟩
    have ac588544 : (fI (F588457 q588398) 9).toInt = p588407.toInt := by rw [he588460]; rfl
    have ac588545 : (fI (F588457 q588398) 10).toInt = p588408.toInt := by rw [he588460]; rfl
    have ac588546 : (fI (F588457 q588398) 32).toInt = p588419.toInt := by rw [he588460]; rfl
    exact G_iretA dr_cX17_count__110 rfl (Nat.le_of_ble_eq_true rfl) (Nat.le_of_ble_eq_true rfl) ⟨F588457, p588420, rfl, rfl, hT588543, hs588461, (Nat.le_of_ble_eq_true rfl), (Nat.le_of_ble_eq_true rfl), (by omega), (by omega), (by omega)⟩
  by_cases hs588547 : p588399 = 3
  · have ehs588547 : p588399.toInt = 3 := gj_eq hs588547 (show Int32.toInt 3 = 3 by decide)
    have bp588399' : gB p588399 3 3 := ⟨by omega, by omega⟩
    refine G_eqi (y := 3) hs588547 ?_
    refine G_tableIn 111 dr_cX17_count__6 (by decide) (by decide) (by first | rfl | decide) (by decide) ?_
    refine G_aload_n 0 dr_cX17_count__111 rfl ?_
    refine Gp_get 32 hm588403 he588460 dr_cX17_count__112 (gk_X17 D I) (Nat.le_of_ble_eq_true rfl) wr_7_106 rfl ?_
    have hT588548 : RS D I P588396 F588457 γ el := RS_set hT n588459 htq588398 (by decide) ⟨q588405, q588406, p588407, p588408, p588409, p588410, p588411, p588412, p588413, p588414, p588415, p588416, p588417, 0, p588419, p588420, p588421, he588460, ⟨bp588407, bp588408, (hB588448.2.2.1), (hB588448.2.2.2.1), (hB588448.2.2.2.2.1), (hB588448.2.2.2.2.2.1), (hB588448.2.2.2.2.2.2.1), bp588419, (hB588448.2.2.2.2.2.2.2.2)⟩, ht588422, ht588423, ht588424, ht588425, ht588426, ht588427, ht588428, ht588429, ht588430, ht588431, ht588432, ht588433, ht588434, ht588435, ht588436, ht588437, ht588438, ht588439, ht588440, ht588441, ht588442, ht588443, ht588444, ht588445, hB588449⟩
    have ac588549 : (fI (F588457 q588398) 9).toInt = p588407.toInt := by rw [he588460]; rfl
    have ac588550 : (fI (F588457 q588398) 10).toInt = p588408.toInt := by rw [he588460]; rfl
    have ac588551 : (fI (F588457 q588398) 32).toInt = p588419.toInt := by rw [he588460]; rfl
    exact G_iretA dr_cX17_count__115 rfl (Nat.le_of_ble_eq_true rfl) (Nat.le_of_ble_eq_true rfl) ⟨F588457, p588419, rfl, rfl, hT588548, hs588461, (Nat.le_of_ble_eq_true rfl), (Nat.le_of_ble_eq_true rfl), (by omega), (by omega), (by omega)⟩
  by_cases hs588552 : p588399 = 4
  · have ehs588552 : p588399.toInt = 4 := gj_eq hs588552 (show Int32.toInt 4 = 4 by decide)
    have bp588399' : gB p588399 4 4 := ⟨by omega, by omega⟩
    refine G_eqi (y := 4) hs588552 ?_
    refine G_tableIn 116 dr_cX17_count__6 (by decide) (by decide) (by first | rfl | decide) (by decide) ?_
    refine G_aload_n 0 dr_cX17_count__116 rfl ?_
    refine Gp_get 34 hm588403 he588460 dr_cX17_count__117 (gk_X17 D I) (Nat.le_of_ble_eq_true rfl) wr_7_108 rfl ?_
    have bp588421 : gB p588421 0 16777216 := (hB588448.2.2.2.2.2.2.2.2)
    have hT588553 : RS D I P588396 F588457 γ el := RS_set hT n588459 htq588398 (by decide) ⟨q588405, q588406, p588407, p588408, p588409, p588410, p588411, p588412, p588413, p588414, p588415, p588416, p588417, 0, p588419, p588420, p588421, he588460, ⟨bp588407, bp588408, (hB588448.2.2.1), (hB588448.2.2.2.1), (hB588448.2.2.2.2.1), (hB588448.2.2.2.2.2.1), (hB588448.2.2.2.2.2.2.1), bp588419, bp588421⟩, ht588422, ht588423, ht588424, ht588425, ht588426, ht588427, ht588428, ht588429, ht588430, ht588431, ht588432, ht588433, ht588434, ht588435, ht588436, ht588437, ht588438, ht588439, ht588440, ht588441, ht588442, ht588443, ht588444, ht588445, hB588449⟩
    have ac588554 : (fI (F588457 q588398) 9).toInt = p588407.toInt := by rw [he588460]; rfl
    have ac588555 : (fI (F588457 q588398) 10).toInt = p588408.toInt := by rw [he588460]; rfl
    have ac588556 : (fI (F588457 q588398) 32).toInt = p588419.toInt := by rw [he588460]; rfl
    exact G_iretA dr_cX17_count__120 rfl (Nat.le_of_ble_eq_true rfl) (Nat.le_of_ble_eq_true rfl) ⟨F588457, p588421, rfl, rfl, hT588553, hs588461, (Nat.le_of_ble_eq_true rfl), (Nat.le_of_ble_eq_true rfl), (by omega), (by omega), (by omega)⟩
  by_cases hs588557 : p588399 = 5
  · have ehs588557 : p588399.toInt = 5 := gj_eq hs588557 (show Int32.toInt 5 = 5 by decide)
    have bp588399' : gB p588399 5 5 := ⟨by omega, by omega⟩
    refine G_eqi (y := 5) hs588557 ?_
    refine G_tableIn 121 dr_cX17_count__6 (by decide) (by decide) (by first | rfl | decide) (by decide) ?_
    refine G_aload_n 0 dr_cX17_count__121 rfl ?_
    refine Gp_get 10 hm588403 he588460 dr_cX17_count__122 (gk_X17 D I) (Nat.le_of_ble_eq_true rfl) wr_7_84 rfl ?_
    refine G_if_eq 138 dr_cX17_count__125 (by decide +kernel) (fun hc588558 => ?_) (fun hc588558 => ?_)
    · have r588559 : p588408.toInt = 0 := gj_eq hc588558 (show Int32.toInt 0 = 0 by decide)
      have bp588408' : gB p588408 0 0 := gB_t0 r588559
      refine G_iconst 0 dr_cX17_count__138 (by decide +kernel) ?_
      have hT588560 : RS D I P588396 F588457 γ el := RS_set hT n588459 htq588398 (by decide) ⟨q588405, q588406, p588407, p588408, p588409, p588410, p588411, p588412, p588413, p588414, p588415, p588416, p588417, 0, p588419, p588420, p588421, he588460, ⟨bp588407, (gB_w bp588408' (by decide) (by decide)), (hB588448.2.2.1), (hB588448.2.2.2.1), (hB588448.2.2.2.2.1), (hB588448.2.2.2.2.2.1), (hB588448.2.2.2.2.2.2.1), bp588419, (hB588448.2.2.2.2.2.2.2.2)⟩, ht588422, ht588423, ht588424, ht588425, ht588426, ht588427, ht588428, ht588429, ht588430, ht588431, ht588432, ht588433, ht588434, ht588435, ht588436, ht588437, ht588438, ht588439, ht588440, ht588441, ht588442, ht588443, ht588444, ht588445, hB588449⟩
      have ac588561 : (fI (F588457 q588398) 9).toInt = p588407.toInt := by rw [he588460]; rfl
      have ac588562 : (fI (F588457 q588398) 10).toInt = p588408.toInt := by rw [he588460]; rfl
      have ac588563 : (fI (F588457 q588398) 32).toInt = p588419.toInt := by rw [he588460]; rfl
      exact G_iretA dr_cX17_count__139 rfl (Nat.le_of_ble_eq_true rfl) (Nat.le_of_ble_eq_true rfl) ⟨F588457, 0, rfl, rfl, hT588560, hs588461, (Nat.le_of_ble_eq_true rfl), (Nat.le_of_ble_eq_true rfl), (by have qa0 : Int32.toInt 0 = 0 := (by decide); omega), (by have qa0 : Int32.toInt 0 = 0 := (by decide); omega), (by have qa0 : Int32.toInt 0 = 0 := (by decide); omega)⟩
    · have r588564 : p588408.toInt ≠ 0 := gj_neq hc588558 (show Int32.toInt 0 = 0 by decide)
      have bp588408' : gB p588408 1 1 := gB_t1 bp588408 r588564
      refine G_aload_n 0 dr_cX17_count__128 rfl ?_
      refine Gp_get 7 hm588403 he588460 dr_cX17_count__129 (gk_X17 D I) (Nat.le_of_ble_eq_true rfl) wr_7_81 rfl ?_
      have hT588565 : RS D I P588396 F588457 γ el := RS_set hT n588459 htq588398 (by decide) ⟨q588405, q588406, p588407, p588408, p588409, p588410, p588411, p588412, p588413, p588414, p588415, p588416, p588417, 0, p588419, p588420, p588421, he588460, ⟨bp588407, (gB_w bp588408' (by decide) (by decide)), (hB588448.2.2.1), (hB588448.2.2.2.1), (hB588448.2.2.2.2.1), (hB588448.2.2.2.2.2.1), (hB588448.2.2.2.2.2.2.1), bp588419, (hB588448.2.2.2.2.2.2.2.2)⟩, ht588422, ht588423, ht588424, ht588425, ht588426, ht588427, ht588428, ht588429, ht588430, ht588431, ht588432, ht588433, ht588434, ht588435, ht588436, ht588437, ht588438, ht588439, ht588440, ht588441, ht588442, ht588443, ht588444, ht588445, hB588449⟩
      have hm588571 : (γ 9 7) ∈ P588396 := RS_m hT588565 ht588431 (by decide)
      obtain ⟨q588573, q588574, p588575, p588576, he588572, ht588592, ht588577, ht588578, ht588579, ht588580, r588581, r588582, r588583, r588584, r588585, r588586, r588587, r588588, r588589, r588590, r588591⟩ := show rk_9 γ el (γ 9 7) (F588457 (γ 9 7)) from RS_o hT588565 ht588431
      have bp588575 : gB p588575 0 1000000 := ⟨by omega, by omega⟩
      have bp588576 : gB p588576 0 1000000 := ⟨by omega, by omega⟩
      refine Gw_callV (As := []) (gV_ok D I) (ct_7810_Code_countRows l hl0 D I γ el P588396 F588457 (γ 9 7) hT588565 ht588431 (by have qa0 : Int32.toInt 0 = 0 := (by decide); omega)) dr_cX17_count__132 ⟨wr_10_229, wr_1_15, wr_10_232, by decide, rfl, (Nat.le_of_ble_eq_true rfl), (Nat.le_of_ble_eq_true rfl)⟩ wr_10_230 wr_10_231 hm588571 he588572 rfl (show 0 + 0 ≤ 0 by first | omega | decide) (show 0 + 0 ≤ 0 by first | omega | decide) (Nat.le_of_ble_eq_true rfl) (fun r588569 w588570 dc588566 ds588567 hp588568 => ?_) (fun _ _ _ _ _ z => z.elim)
      obtain ⟨o588593, rfl, rfl, hdc, hds, ht588594⟩ := hp588568
      have bo588593 := gB_any o588593
      change G _ _ _ _ _ _ _ (.int o588593 :: _) _ _ _
      refine G_widen (cs' := 0) (sl' := 0) (by omega) (by omega) ?_
      refine G_goto 139 dr_cX17_count__135 (by decide +kernel) ?_
      have ac588595 : (fI (F588457 q588398) 9).toInt = p588407.toInt := by rw [he588460]; rfl
      have ac588596 : (fI (F588457 q588398) 10).toInt = p588408.toInt := by rw [he588460]; rfl
      have ac588597 : (fI (F588457 q588398) 32).toInt = p588419.toInt := by rw [he588460]; rfl
      exact G_iretA dr_cX17_count__139 rfl (Nat.le_of_ble_eq_true rfl) (Nat.le_of_ble_eq_true rfl) ⟨F588457, o588593, rfl, rfl, hT588565, hs588461, (Nat.le_of_ble_eq_true rfl), (Nat.le_of_ble_eq_true rfl), (by omega), (by omega), (by omega)⟩
  by_cases hs588598 : p588399 = 6
  · have ehs588598 : p588399.toInt = 6 := gj_eq hs588598 (show Int32.toInt 6 = 6 by decide)
    have bp588399' : gB p588399 6 6 := ⟨by omega, by omega⟩
    refine G_eqi (y := 6) hs588598 ?_
    refine G_tableIn 140 dr_cX17_count__6 (by decide) (by decide) (by first | rfl | decide) (by decide) ?_
    refine G_aload_n 0 dr_cX17_count__140 rfl ?_
    refine Gp_get 10 hm588403 he588460 dr_cX17_count__141 (gk_X17 D I) (Nat.le_of_ble_eq_true rfl) wr_7_84 rfl ?_
    refine G_if_eq 154 dr_cX17_count__144 (by decide +kernel) (fun hc588599 => ?_) (fun hc588599 => ?_)
    · have r588600 : p588408.toInt = 0 := gj_eq hc588599 (show Int32.toInt 0 = 0 by decide)
      have bp588408' : gB p588408 0 0 := gB_t0 r588600
      refine G_iconst 0 dr_cX17_count__154 (by decide +kernel) ?_
      have hT588601 : RS D I P588396 F588457 γ el := RS_set hT n588459 htq588398 (by decide) ⟨q588405, q588406, p588407, p588408, p588409, p588410, p588411, p588412, p588413, p588414, p588415, p588416, p588417, 0, p588419, p588420, p588421, he588460, ⟨bp588407, (gB_w bp588408' (by decide) (by decide)), (hB588448.2.2.1), (hB588448.2.2.2.1), (hB588448.2.2.2.2.1), (hB588448.2.2.2.2.2.1), (hB588448.2.2.2.2.2.2.1), bp588419, (hB588448.2.2.2.2.2.2.2.2)⟩, ht588422, ht588423, ht588424, ht588425, ht588426, ht588427, ht588428, ht588429, ht588430, ht588431, ht588432, ht588433, ht588434, ht588435, ht588436, ht588437, ht588438, ht588439, ht588440, ht588441, ht588442, ht588443, ht588444, ht588445, hB588449⟩
      have ac588602 : (fI (F588457 q588398) 9).toInt = p588407.toInt := by rw [he588460]; rfl
      have ac588603 : (fI (F588457 q588398) 10).toInt = p588408.toInt := by rw [he588460]; rfl
      have ac588604 : (fI (F588457 q588398) 32).toInt = p588419.toInt := by rw [he588460]; rfl
      exact G_iretA dr_cX17_count__155 rfl (Nat.le_of_ble_eq_true rfl) (Nat.le_of_ble_eq_true rfl) ⟨F588457, 0, rfl, rfl, hT588601, hs588461, (Nat.le_of_ble_eq_true rfl), (Nat.le_of_ble_eq_true rfl), (by have qa0 : Int32.toInt 0 = 0 := (by decide); omega), (by have qa0 : Int32.toInt 0 = 0 := (by decide); omega), (by have qa0 : Int32.toInt 0 = 0 := (by decide); omega)⟩
    · have r588605 : p588408.toInt ≠ 0 := gj_neq hc588599 (show Int32.toInt 0 = 0 by decide)
      have bp588408' : gB p588408 1 1 := gB_t1 bp588408 r588605
      refine G_aload_n 0 dr_cX17_count__147 rfl ?_
      have hT588606 : RS D I P588396 F588457 γ el := RS_set hT n588459 htq588398 (by decide) ⟨q588405, q588406, p588407, p588408, p588409, p588410, p588411, p588412, p588413, p588414, p588415, p588416, p588417, 0, p588419, p588420, p588421, he588460, ⟨bp588407, (gB_w bp588408' (by decide) (by decide)), (hB588448.2.2.1), (hB588448.2.2.2.1), (hB588448.2.2.2.2.1), (hB588448.2.2.2.2.2.1), (hB588448.2.2.2.2.2.2.1), bp588419, (hB588448.2.2.2.2.2.2.2.2)⟩, ht588422, ht588423, ht588424, ht588425, ht588426, ht588427, ht588428, ht588429, ht588430, ht588431, ht588432, ht588433, ht588434, ht588435, ht588436, ht588437, ht588438, ht588439, ht588440, ht588441, ht588442, ht588443, ht588444, ht588445, hB588449⟩
      have ac588864 : (fI (F588457 q588398) 9).toInt = p588407.toInt := by rw [he588460]; rfl
      have ac588865 : (fI (F588457 q588398) 10).toInt = p588408.toInt := by rw [he588460]; rfl
      have ac588866 : (fI (F588457 q588398) 32).toInt = p588419.toInt := by rw [he588460]; rfl
      refine Gw_callV (As := []) (gV_ok D I) (ct_588611_SpillForgeModel_colourCount l hl0 D I γ el P588396 F588457 q588398 hT588606 htq588398 (by have qa0 : Int32.toInt 0 = 0 := (by decide); omega)) dr_cX17_count__148 ⟨wr_11_75, wr_1_14, wr_11_78, by decide, rfl, (Nat.le_of_ble_eq_true rfl), (Nat.le_of_ble_eq_true rfl)⟩ wr_11_77 wr_p_112 hm588403 he588460 rfl (show 0 + 0 ≤ 0 by first | omega | decide) (show 0 + 0 ≤ 0 by first | omega | decide) (Nat.le_of_ble_eq_true rfl) (fun r588870 w588871 dc588867 ds588868 hp588869 => ?_) (fun _ _ _ _ _ z => z.elim)
      obtain ⟨F588874, o588872, rfl, rfl, hT588875, hs588876, hdc, hds, x588873⟩ := hp588869
      have hs588877 : rStr γ [] F588397 F588874 := rStr_tr hs588461 hs588876
      have kp588878 : F588874 q588398 = F588457 q588398 := x588873
      have he588879 : F588874 q588398 = .inr (22, [.ref (γ 9 0), .ref (γ 9 1), .ref (γ 9 2), .ref (γ 9 3), .ref (γ 9 4), .ref (γ 9 5), .ref (γ 9 6), .ref (γ 9 7), .ref (γ 9 8), .int p588407, .int p588408, .int p588409, .int p588410, .int p588411, .int p588412, .ref (γ 9 15), .ref (γ 9 16), .ref (γ 9 17), .ref (γ 9 18), .ref (γ 9 19), .ref (γ 9 20), .ref (γ 9 21), .ref (γ 9 22), .int p588413, .int p588414, .int p588415, .int p588416, .int p588417, .ref q588405, .ref (γ 9 29), .int 0, .ref (γ 9 31), .int p588419, .int p588420, .int p588421, .ref q588406]) := (x588873).trans he588460
      have bo588872 := gB_any o588872
      change G _ _ _ _ _ _ _ (.int o588872 :: _) _ _ _
      refine G_widen (cs' := 0) (sl' := 0) (by omega) (by omega) ?_
      refine G_goto 155 dr_cX17_count__151 (by decide +kernel) ?_
      have ac588880 : (fI (F588874 q588398) 9).toInt = p588407.toInt := by rw [he588879]; rfl
      have ac588881 : (fI (F588874 q588398) 10).toInt = p588408.toInt := by rw [he588879]; rfl
      have ac588882 : (fI (F588874 q588398) 32).toInt = p588419.toInt := by rw [he588879]; rfl
      exact G_iretA dr_cX17_count__155 rfl (Nat.le_of_ble_eq_true rfl) (Nat.le_of_ble_eq_true rfl) ⟨F588874, o588872, rfl, rfl, hT588875, hs588877, (Nat.le_of_ble_eq_true rfl), (Nat.le_of_ble_eq_true rfl), (by omega), (by omega), (by omega)⟩
  by_cases hs588883 : p588399 = 7
  · have ehs588883 : p588399.toInt = 7 := gj_eq hs588883 (show Int32.toInt 7 = 7 by decide)
    have bp588399' : gB p588399 7 7 := ⟨by omega, by omega⟩
    refine G_eqi (y := 7) hs588883 ?_
    refine G_tableIn 156 dr_cX17_count__6 (by decide) (by decide) (by first | rfl | decide) (by decide) ?_
    refine G_aload_n 0 dr_cX17_count__156 rfl ?_
    refine Gp_get 10 hm588403 he588460 dr_cX17_count__157 (gk_X17 D I) (Nat.le_of_ble_eq_true rfl) wr_7_84 rfl ?_
    refine G_if_eq 170 dr_cX17_count__160 (by decide +kernel) (fun hc588884 => ?_) (fun hc588884 => ?_)
    · have r588885 : p588408.toInt = 0 := gj_eq hc588884 (show Int32.toInt 0 = 0 by decide)
      have bp588408' : gB p588408 0 0 := gB_t0 r588885
      refine G_iconst 0 dr_cX17_count__170 (by decide +kernel) ?_
      have hT588886 : RS D I P588396 F588457 γ el := RS_set hT n588459 htq588398 (by decide) ⟨q588405, q588406, p588407, p588408, p588409, p588410, p588411, p588412, p588413, p588414, p588415, p588416, p588417, 0, p588419, p588420, p588421, he588460, ⟨bp588407, (gB_w bp588408' (by decide) (by decide)), (hB588448.2.2.1), (hB588448.2.2.2.1), (hB588448.2.2.2.2.1), (hB588448.2.2.2.2.2.1), (hB588448.2.2.2.2.2.2.1), bp588419, (hB588448.2.2.2.2.2.2.2.2)⟩, ht588422, ht588423, ht588424, ht588425, ht588426, ht588427, ht588428, ht588429, ht588430, ht588431, ht588432, ht588433, ht588434, ht588435, ht588436, ht588437, ht588438, ht588439, ht588440, ht588441, ht588442, ht588443, ht588444, ht588445, hB588449⟩
      have ac588887 : (fI (F588457 q588398) 9).toInt = p588407.toInt := by rw [he588460]; rfl
      have ac588888 : (fI (F588457 q588398) 10).toInt = p588408.toInt := by rw [he588460]; rfl
      have ac588889 : (fI (F588457 q588398) 32).toInt = p588419.toInt := by rw [he588460]; rfl
      exact G_iretA dr_cX17_count__171 rfl (Nat.le_of_ble_eq_true rfl) (Nat.le_of_ble_eq_true rfl) ⟨F588457, 0, rfl, rfl, hT588886, hs588461, (Nat.le_of_ble_eq_true rfl), (Nat.le_of_ble_eq_true rfl), (by have qa0 : Int32.toInt 0 = 0 := (by decide); omega), (by have qa0 : Int32.toInt 0 = 0 := (by decide); omega), (by have qa0 : Int32.toInt 0 = 0 := (by decide); omega)⟩
    · have r588890 : p588408.toInt ≠ 0 := gj_neq hc588884 (show Int32.toInt 0 = 0 by decide)
      have bp588408' : gB p588408 1 1 := gB_t1 bp588408 r588890
      refine G_aload_n 0 dr_cX17_count__163 rfl ?_
      refine Gp_get 11 hm588403 he588460 dr_cX17_count__164 (gk_X17 D I) (Nat.le_of_ble_eq_true rfl) wr_7_85 rfl ?_
      have bp588409 : gB p588409 0 100 := (hB588448.2.2.1)
      refine G_goto 171 dr_cX17_count__167 (by decide +kernel) ?_
      have hT588891 : RS D I P588396 F588457 γ el := RS_set hT n588459 htq588398 (by decide) ⟨q588405, q588406, p588407, p588408, p588409, p588410, p588411, p588412, p588413, p588414, p588415, p588416, p588417, 0, p588419, p588420, p588421, he588460, ⟨bp588407, (gB_w bp588408' (by decide) (by decide)), bp588409, (hB588448.2.2.2.1), (hB588448.2.2.2.2.1), (hB588448.2.2.2.2.2.1), (hB588448.2.2.2.2.2.2.1), bp588419, (hB588448.2.2.2.2.2.2.2.2)⟩, ht588422, ht588423, ht588424, ht588425, ht588426, ht588427, ht588428, ht588429, ht588430, ht588431, ht588432, ht588433, ht588434, ht588435, ht588436, ht588437, ht588438, ht588439, ht588440, ht588441, ht588442, ht588443, ht588444, ht588445, hB588449⟩
      have ac588892 : (fI (F588457 q588398) 9).toInt = p588407.toInt := by rw [he588460]; rfl
      have ac588893 : (fI (F588457 q588398) 10).toInt = p588408.toInt := by rw [he588460]; rfl
      have ac588894 : (fI (F588457 q588398) 32).toInt = p588419.toInt := by rw [he588460]; rfl
      exact G_iretA dr_cX17_count__171 rfl (Nat.le_of_ble_eq_true rfl) (Nat.le_of_ble_eq_true rfl) ⟨F588457, p588409, rfl, rfl, hT588891, hs588461, (Nat.le_of_ble_eq_true rfl), (Nat.le_of_ble_eq_true rfl), (by omega), (by omega), (by omega)⟩
  by_cases hs588895 : p588399 = 8
  · have ehs588895 : p588399.toInt = 8 := gj_eq hs588895 (show Int32.toInt 8 = 8 by decide)
    have bp588399' : gB p588399 8 8 := ⟨by omega, by omega⟩
    refine G_eqi (y := 8) hs588895 ?_
    refine G_tableIn 172 dr_cX17_count__6 (by decide) (by decide) (by first | rfl | decide) (by decide) ?_
    refine G_aload_n 0 dr_cX17_count__172 rfl ?_
    refine Gp_get 10 hm588403 he588460 dr_cX17_count__173 (gk_X17 D I) (Nat.le_of_ble_eq_true rfl) wr_7_84 rfl ?_
    refine G_if_eq 186 dr_cX17_count__176 (by decide +kernel) (fun hc588896 => ?_) (fun hc588896 => ?_)
    · have r588897 : p588408.toInt = 0 := gj_eq hc588896 (show Int32.toInt 0 = 0 by decide)
      have bp588408' : gB p588408 0 0 := gB_t0 r588897
      refine G_iconst 0 dr_cX17_count__186 (by decide +kernel) ?_
      have hT588898 : RS D I P588396 F588457 γ el := RS_set hT n588459 htq588398 (by decide) ⟨q588405, q588406, p588407, p588408, p588409, p588410, p588411, p588412, p588413, p588414, p588415, p588416, p588417, 0, p588419, p588420, p588421, he588460, ⟨bp588407, (gB_w bp588408' (by decide) (by decide)), (hB588448.2.2.1), (hB588448.2.2.2.1), (hB588448.2.2.2.2.1), (hB588448.2.2.2.2.2.1), (hB588448.2.2.2.2.2.2.1), bp588419, (hB588448.2.2.2.2.2.2.2.2)⟩, ht588422, ht588423, ht588424, ht588425, ht588426, ht588427, ht588428, ht588429, ht588430, ht588431, ht588432, ht588433, ht588434, ht588435, ht588436, ht588437, ht588438, ht588439, ht588440, ht588441, ht588442, ht588443, ht588444, ht588445, hB588449⟩
      have ac588899 : (fI (F588457 q588398) 9).toInt = p588407.toInt := by rw [he588460]; rfl
      have ac588900 : (fI (F588457 q588398) 10).toInt = p588408.toInt := by rw [he588460]; rfl
      have ac588901 : (fI (F588457 q588398) 32).toInt = p588419.toInt := by rw [he588460]; rfl
      exact G_iretA dr_cX17_count__187 rfl (Nat.le_of_ble_eq_true rfl) (Nat.le_of_ble_eq_true rfl) ⟨F588457, 0, rfl, rfl, hT588898, hs588461, (Nat.le_of_ble_eq_true rfl), (Nat.le_of_ble_eq_true rfl), (by have qa0 : Int32.toInt 0 = 0 := (by decide); omega), (by have qa0 : Int32.toInt 0 = 0 := (by decide); omega), (by have qa0 : Int32.toInt 0 = 0 := (by decide); omega)⟩
    · have r588902 : p588408.toInt ≠ 0 := gj_neq hc588896 (show Int32.toInt 0 = 0 by decide)
      have bp588408' : gB p588408 1 1 := gB_t1 bp588408 r588902
      refine G_aload_n 0 dr_cX17_count__179 rfl ?_
      refine Gp_get 12 hm588403 he588460 dr_cX17_count__180 (gk_X17 D I) (Nat.le_of_ble_eq_true rfl) wr_7_86 rfl ?_
      have bp588410 : gB p588410 (-2147483648) 2147483647 := (gB_any p588410)
      refine G_goto 187 dr_cX17_count__183 (by decide +kernel) ?_
      have hT588903 : RS D I P588396 F588457 γ el := RS_set hT n588459 htq588398 (by decide) ⟨q588405, q588406, p588407, p588408, p588409, p588410, p588411, p588412, p588413, p588414, p588415, p588416, p588417, 0, p588419, p588420, p588421, he588460, ⟨bp588407, (gB_w bp588408' (by decide) (by decide)), (hB588448.2.2.1), (hB588448.2.2.2.1), (hB588448.2.2.2.2.1), (hB588448.2.2.2.2.2.1), (hB588448.2.2.2.2.2.2.1), bp588419, (hB588448.2.2.2.2.2.2.2.2)⟩, ht588422, ht588423, ht588424, ht588425, ht588426, ht588427, ht588428, ht588429, ht588430, ht588431, ht588432, ht588433, ht588434, ht588435, ht588436, ht588437, ht588438, ht588439, ht588440, ht588441, ht588442, ht588443, ht588444, ht588445, hB588449⟩
      have ac588904 : (fI (F588457 q588398) 9).toInt = p588407.toInt := by rw [he588460]; rfl
      have ac588905 : (fI (F588457 q588398) 10).toInt = p588408.toInt := by rw [he588460]; rfl
      have ac588906 : (fI (F588457 q588398) 32).toInt = p588419.toInt := by rw [he588460]; rfl
      exact G_iretA dr_cX17_count__187 rfl (Nat.le_of_ble_eq_true rfl) (Nat.le_of_ble_eq_true rfl) ⟨F588457, p588410, rfl, rfl, hT588903, hs588461, (Nat.le_of_ble_eq_true rfl), (Nat.le_of_ble_eq_true rfl), (by omega), (by omega), (by omega)⟩
  by_cases hs588907 : p588399 = 9
  · have ehs588907 : p588399.toInt = 9 := gj_eq hs588907 (show Int32.toInt 9 = 9 by decide)
    have bp588399' : gB p588399 9 9 := ⟨by omega, by omega⟩
    refine G_eqi (y := 9) hs588907 ?_
    refine G_tableIn 188 dr_cX17_count__6 (by decide) (by decide) (by first | rfl | decide) (by decide) ?_
    refine G_aload_n 0 dr_cX17_count__188 rfl ?_
    refine Gp_get 10 hm588403 he588460 dr_cX17_count__189 (gk_X17 D I) (Nat.le_of_ble_eq_true rfl) wr_7_84 rfl ?_
    refine G_if_eq 202 dr_cX17_count__192 (by decide +kernel) (fun hc588908 => ?_) (fun hc588908 => ?_)
    · have r588909 : p588408.toInt = 0 := gj_eq hc588908 (show Int32.toInt 0 = 0 by decide)
      have bp588408' : gB p588408 0 0 := gB_t0 r588909
      refine G_iconst 0 dr_cX17_count__202 (by decide +kernel) ?_
      have hT588910 : RS D I P588396 F588457 γ el := RS_set hT n588459 htq588398 (by decide) ⟨q588405, q588406, p588407, p588408, p588409, p588410, p588411, p588412, p588413, p588414, p588415, p588416, p588417, 0, p588419, p588420, p588421, he588460, ⟨bp588407, (gB_w bp588408' (by decide) (by decide)), (hB588448.2.2.1), (hB588448.2.2.2.1), (hB588448.2.2.2.2.1), (hB588448.2.2.2.2.2.1), (hB588448.2.2.2.2.2.2.1), bp588419, (hB588448.2.2.2.2.2.2.2.2)⟩, ht588422, ht588423, ht588424, ht588425, ht588426, ht588427, ht588428, ht588429, ht588430, ht588431, ht588432, ht588433, ht588434, ht588435, ht588436, ht588437, ht588438, ht588439, ht588440, ht588441, ht588442, ht588443, ht588444, ht588445, hB588449⟩
      have ac588911 : (fI (F588457 q588398) 9).toInt = p588407.toInt := by rw [he588460]; rfl
      have ac588912 : (fI (F588457 q588398) 10).toInt = p588408.toInt := by rw [he588460]; rfl
      have ac588913 : (fI (F588457 q588398) 32).toInt = p588419.toInt := by rw [he588460]; rfl
      exact G_iretA dr_cX17_count__203 rfl (Nat.le_of_ble_eq_true rfl) (Nat.le_of_ble_eq_true rfl) ⟨F588457, 0, rfl, rfl, hT588910, hs588461, (Nat.le_of_ble_eq_true rfl), (Nat.le_of_ble_eq_true rfl), (by have qa0 : Int32.toInt 0 = 0 := (by decide); omega), (by have qa0 : Int32.toInt 0 = 0 := (by decide); omega), (by have qa0 : Int32.toInt 0 = 0 := (by decide); omega)⟩
    · have r588914 : p588408.toInt ≠ 0 := gj_neq hc588908 (show Int32.toInt 0 = 0 by decide)
      have bp588408' : gB p588408 1 1 := gB_t1 bp588408 r588914
      refine G_aload_n 0 dr_cX17_count__195 rfl ?_
      refine Gp_get 13 hm588403 he588460 dr_cX17_count__196 (gk_X17 D I) (Nat.le_of_ble_eq_true rfl) wr_7_87 rfl ?_
      have bp588411 : gB p588411 (-2147483648) 2147483647 := (gB_any p588411)
      refine G_goto 203 dr_cX17_count__199 (by decide +kernel) ?_
      have hT588915 : RS D I P588396 F588457 γ el := RS_set hT n588459 htq588398 (by decide) ⟨q588405, q588406, p588407, p588408, p588409, p588410, p588411, p588412, p588413, p588414, p588415, p588416, p588417, 0, p588419, p588420, p588421, he588460, ⟨bp588407, (gB_w bp588408' (by decide) (by decide)), (hB588448.2.2.1), (hB588448.2.2.2.1), (hB588448.2.2.2.2.1), (hB588448.2.2.2.2.2.1), (hB588448.2.2.2.2.2.2.1), bp588419, (hB588448.2.2.2.2.2.2.2.2)⟩, ht588422, ht588423, ht588424, ht588425, ht588426, ht588427, ht588428, ht588429, ht588430, ht588431, ht588432, ht588433, ht588434, ht588435, ht588436, ht588437, ht588438, ht588439, ht588440, ht588441, ht588442, ht588443, ht588444, ht588445, hB588449⟩
      have ac588916 : (fI (F588457 q588398) 9).toInt = p588407.toInt := by rw [he588460]; rfl
      have ac588917 : (fI (F588457 q588398) 10).toInt = p588408.toInt := by rw [he588460]; rfl
      have ac588918 : (fI (F588457 q588398) 32).toInt = p588419.toInt := by rw [he588460]; rfl
      exact G_iretA dr_cX17_count__203 rfl (Nat.le_of_ble_eq_true rfl) (Nat.le_of_ble_eq_true rfl) ⟨F588457, p588411, rfl, rfl, hT588915, hs588461, (Nat.le_of_ble_eq_true rfl), (Nat.le_of_ble_eq_true rfl), (by omega), (by omega), (by omega)⟩
  by_cases hs588919 : p588399 = 10
  · have ehs588919 : p588399.toInt = 10 := gj_eq hs588919 (show Int32.toInt 10 = 10 by decide)
    have bp588399' : gB p588399 10 10 := ⟨by omega, by omega⟩
    refine G_eqi (y := 10) hs588919 ?_
    refine G_tableIn 204 dr_cX17_count__6 (by decide) (by decide) (by first | rfl | decide) (by decide) ?_
    refine G_aload_n 0 dr_cX17_count__204 rfl ?_
    refine Gp_get 10 hm588403 he588460 dr_cX17_count__205 (gk_X17 D I) (Nat.le_of_ble_eq_true rfl) wr_7_84 rfl ?_
    refine G_if_eq 223 dr_cX17_count__208 (by decide +kernel) (fun hc588920 => ?_) (fun hc588920 => ?_)
    · have r588921 : p588408.toInt = 0 := gj_eq hc588920 (show Int32.toInt 0 = 0 by decide)
      have bp588408' : gB p588408 0 0 := gB_t0 r588921
      refine G_iconst 0 dr_cX17_count__223 (by decide +kernel) ?_
      have hT588922 : RS D I P588396 F588457 γ el := RS_set hT n588459 htq588398 (by decide) ⟨q588405, q588406, p588407, p588408, p588409, p588410, p588411, p588412, p588413, p588414, p588415, p588416, p588417, 0, p588419, p588420, p588421, he588460, ⟨bp588407, (gB_w bp588408' (by decide) (by decide)), (hB588448.2.2.1), (hB588448.2.2.2.1), (hB588448.2.2.2.2.1), (hB588448.2.2.2.2.2.1), (hB588448.2.2.2.2.2.2.1), bp588419, (hB588448.2.2.2.2.2.2.2.2)⟩, ht588422, ht588423, ht588424, ht588425, ht588426, ht588427, ht588428, ht588429, ht588430, ht588431, ht588432, ht588433, ht588434, ht588435, ht588436, ht588437, ht588438, ht588439, ht588440, ht588441, ht588442, ht588443, ht588444, ht588445, hB588449⟩
      have ac588923 : (fI (F588457 q588398) 9).toInt = p588407.toInt := by rw [he588460]; rfl
      have ac588924 : (fI (F588457 q588398) 10).toInt = p588408.toInt := by rw [he588460]; rfl
      have ac588925 : (fI (F588457 q588398) 32).toInt = p588419.toInt := by rw [he588460]; rfl
      exact G_iretA dr_cX17_count__224 rfl (Nat.le_of_ble_eq_true rfl) (Nat.le_of_ble_eq_true rfl) ⟨F588457, 0, rfl, rfl, hT588922, hs588461, (Nat.le_of_ble_eq_true rfl), (Nat.le_of_ble_eq_true rfl), (by have qa0 : Int32.toInt 0 = 0 := (by decide); omega), (by have qa0 : Int32.toInt 0 = 0 := (by decide); omega), (by have qa0 : Int32.toInt 0 = 0 := (by decide); omega)⟩
    · have r588926 : p588408.toInt ≠ 0 := gj_neq hc588920 (show Int32.toInt 0 = 0 by decide)
      have bp588408' : gB p588408 1 1 := gB_t1 bp588408 r588926
      refine G_aload_n 0 dr_cX17_count__211 rfl ?_
      refine Gp_get 7 hm588403 he588460 dr_cX17_count__212 (gk_X17 D I) (Nat.le_of_ble_eq_true rfl) wr_7_81 rfl ?_
      refine G_bipush 21 dr_cX17_count__215 (by decide +kernel) ?_
      have hT588927 : RS D I P588396 F588457 γ el := RS_set hT n588459 htq588398 (by decide) ⟨q588405, q588406, p588407, p588408, p588409, p588410, p588411, p588412, p588413, p588414, p588415, p588416, p588417, 0, p588419, p588420, p588421, he588460, ⟨bp588407, (gB_w bp588408' (by decide) (by decide)), (hB588448.2.2.1), (hB588448.2.2.2.1), (hB588448.2.2.2.2.1), (hB588448.2.2.2.2.2.1), (hB588448.2.2.2.2.2.2.1), bp588419, (hB588448.2.2.2.2.2.2.2.2)⟩, ht588422, ht588423, ht588424, ht588425, ht588426, ht588427, ht588428, ht588429, ht588430, ht588431, ht588432, ht588433, ht588434, ht588435, ht588436, ht588437, ht588438, ht588439, ht588440, ht588441, ht588442, ht588443, ht588444, ht588445, hB588449⟩
      have hm588933 : (γ 9 7) ∈ P588396 := RS_m hT588927 ht588431 (by decide)
      obtain ⟨q588935, q588936, p588937, p588938, he588934, ht588954, ht588939, ht588940, ht588941, ht588942, r588943, r588944, r588945, r588946, r588947, r588948, r588949, r588950, r588951, r588952, r588953⟩ := show rk_9 γ el (γ 9 7) (F588457 (γ 9 7)) from RS_o hT588927 ht588431
      have bp588937 : gB p588937 0 1000000 := ⟨by omega, by omega⟩
      have bp588938 : gB p588938 0 1000000 := ⟨by omega, by omega⟩
      refine Gw_callV (As := [.int 21]) (gV_ok D I) (ct_8782_Code_count l hl0 D I γ el P588396 F588457 (γ 9 7) 21 hT588927 ht588431 (by have qa0 : Int32.toInt 0 = 0 := (by decide); omega)) dr_cX17_count__217 ⟨wr_11_79, wr_1_15, wr_11_82, by decide, rfl, (Nat.le_of_ble_eq_true rfl), (Nat.le_of_ble_eq_true rfl)⟩ wr_11_80 wr_11_81 hm588933 he588934 rfl (show 0 + 0 ≤ 0 by first | omega | decide) (show 0 + 0 ≤ 0 by first | omega | decide) (Nat.le_of_ble_eq_true rfl) (fun r588931 w588932 dc588928 ds588929 hp588930 => ?_) (fun _ _ _ _ _ z => z.elim)
      obtain ⟨o588955, rfl, rfl, hdc, hds, ht588956⟩ := hp588930
      have bo588955 := gB_any o588955
      change G _ _ _ _ _ _ _ (.int o588955 :: _) _ _ _
      refine G_widen (cs' := 0) (sl' := 0) (by omega) (by omega) ?_
      refine G_goto 224 dr_cX17_count__220 (by decide +kernel) ?_
      have ac588957 : (fI (F588457 q588398) 9).toInt = p588407.toInt := by rw [he588460]; rfl
      have ac588958 : (fI (F588457 q588398) 10).toInt = p588408.toInt := by rw [he588460]; rfl
      have ac588959 : (fI (F588457 q588398) 32).toInt = p588419.toInt := by rw [he588460]; rfl
      exact G_iretA dr_cX17_count__224 rfl (Nat.le_of_ble_eq_true rfl) (Nat.le_of_ble_eq_true rfl) ⟨F588457, o588955, rfl, rfl, hT588927, hs588461, (Nat.le_of_ble_eq_true rfl), (Nat.le_of_ble_eq_true rfl), (by omega), (by omega), (by omega)⟩
  by_cases hs588960 : p588399 = 11
  · have ehs588960 : p588399.toInt = 11 := gj_eq hs588960 (show Int32.toInt 11 = 11 by decide)
    have bp588399' : gB p588399 11 11 := ⟨by omega, by omega⟩
    refine G_eqi (y := 11) hs588960 ?_
    refine G_tableIn 225 dr_cX17_count__6 (by decide) (by decide) (by first | rfl | decide) (by decide) ?_
    refine G_aload_n 0 dr_cX17_count__225 rfl ?_
    refine Gp_get 10 hm588403 he588460 dr_cX17_count__226 (gk_X17 D I) (Nat.le_of_ble_eq_true rfl) wr_7_84 rfl ?_
    refine G_if_eq 244 dr_cX17_count__229 (by decide +kernel) (fun hc588961 => ?_) (fun hc588961 => ?_)
    · have r588962 : p588408.toInt = 0 := gj_eq hc588961 (show Int32.toInt 0 = 0 by decide)
      have bp588408' : gB p588408 0 0 := gB_t0 r588962
      refine G_iconst 0 dr_cX17_count__244 (by decide +kernel) ?_
      have hT588963 : RS D I P588396 F588457 γ el := RS_set hT n588459 htq588398 (by decide) ⟨q588405, q588406, p588407, p588408, p588409, p588410, p588411, p588412, p588413, p588414, p588415, p588416, p588417, 0, p588419, p588420, p588421, he588460, ⟨bp588407, (gB_w bp588408' (by decide) (by decide)), (hB588448.2.2.1), (hB588448.2.2.2.1), (hB588448.2.2.2.2.1), (hB588448.2.2.2.2.2.1), (hB588448.2.2.2.2.2.2.1), bp588419, (hB588448.2.2.2.2.2.2.2.2)⟩, ht588422, ht588423, ht588424, ht588425, ht588426, ht588427, ht588428, ht588429, ht588430, ht588431, ht588432, ht588433, ht588434, ht588435, ht588436, ht588437, ht588438, ht588439, ht588440, ht588441, ht588442, ht588443, ht588444, ht588445, hB588449⟩
      have ac588964 : (fI (F588457 q588398) 9).toInt = p588407.toInt := by rw [he588460]; rfl
      have ac588965 : (fI (F588457 q588398) 10).toInt = p588408.toInt := by rw [he588460]; rfl
      have ac588966 : (fI (F588457 q588398) 32).toInt = p588419.toInt := by rw [he588460]; rfl
      exact G_iretA dr_cX17_count__245 rfl (Nat.le_of_ble_eq_true rfl) (Nat.le_of_ble_eq_true rfl) ⟨F588457, 0, rfl, rfl, hT588963, hs588461, (Nat.le_of_ble_eq_true rfl), (Nat.le_of_ble_eq_true rfl), (by have qa0 : Int32.toInt 0 = 0 := (by decide); omega), (by have qa0 : Int32.toInt 0 = 0 := (by decide); omega), (by have qa0 : Int32.toInt 0 = 0 := (by decide); omega)⟩
    · have r588967 : p588408.toInt ≠ 0 := gj_neq hc588961 (show Int32.toInt 0 = 0 by decide)
      have bp588408' : gB p588408 1 1 := gB_t1 bp588408 r588967
      refine G_aload_n 0 dr_cX17_count__232 rfl ?_
      refine Gp_get 7 hm588403 he588460 dr_cX17_count__233 (gk_X17 D I) (Nat.le_of_ble_eq_true rfl) wr_7_81 rfl ?_
      refine G_bipush 23 dr_cX17_count__236 (by decide +kernel) ?_
      have hT588968 : RS D I P588396 F588457 γ el := RS_set hT n588459 htq588398 (by decide) ⟨q588405, q588406, p588407, p588408, p588409, p588410, p588411, p588412, p588413, p588414, p588415, p588416, p588417, 0, p588419, p588420, p588421, he588460, ⟨bp588407, (gB_w bp588408' (by decide) (by decide)), (hB588448.2.2.1), (hB588448.2.2.2.1), (hB588448.2.2.2.2.1), (hB588448.2.2.2.2.2.1), (hB588448.2.2.2.2.2.2.1), bp588419, (hB588448.2.2.2.2.2.2.2.2)⟩, ht588422, ht588423, ht588424, ht588425, ht588426, ht588427, ht588428, ht588429, ht588430, ht588431, ht588432, ht588433, ht588434, ht588435, ht588436, ht588437, ht588438, ht588439, ht588440, ht588441, ht588442, ht588443, ht588444, ht588445, hB588449⟩
      have hm588974 : (γ 9 7) ∈ P588396 := RS_m hT588968 ht588431 (by decide)
      obtain ⟨q588976, q588977, p588978, p588979, he588975, ht588995, ht588980, ht588981, ht588982, ht588983, r588984, r588985, r588986, r588987, r588988, r588989, r588990, r588991, r588992, r588993, r588994⟩ := show rk_9 γ el (γ 9 7) (F588457 (γ 9 7)) from RS_o hT588968 ht588431
      have bp588978 : gB p588978 0 1000000 := ⟨by omega, by omega⟩
      have bp588979 : gB p588979 0 1000000 := ⟨by omega, by omega⟩
      refine Gw_callV (As := [.int 23]) (gV_ok D I) (ct_8782_Code_count l hl0 D I γ el P588396 F588457 (γ 9 7) 23 hT588968 ht588431 (by have qa0 : Int32.toInt 0 = 0 := (by decide); omega)) dr_cX17_count__238 ⟨wr_11_79, wr_1_15, wr_11_82, by decide, rfl, (Nat.le_of_ble_eq_true rfl), (Nat.le_of_ble_eq_true rfl)⟩ wr_11_80 wr_11_81 hm588974 he588975 rfl (show 0 + 0 ≤ 0 by first | omega | decide) (show 0 + 0 ≤ 0 by first | omega | decide) (Nat.le_of_ble_eq_true rfl) (fun r588972 w588973 dc588969 ds588970 hp588971 => ?_) (fun _ _ _ _ _ z => z.elim)
      obtain ⟨o588996, rfl, rfl, hdc, hds, ht588997⟩ := hp588971
      have bo588996 := gB_any o588996
      change G _ _ _ _ _ _ _ (.int o588996 :: _) _ _ _
      refine G_widen (cs' := 0) (sl' := 0) (by omega) (by omega) ?_
      refine G_goto 245 dr_cX17_count__241 (by decide +kernel) ?_
      have ac588998 : (fI (F588457 q588398) 9).toInt = p588407.toInt := by rw [he588460]; rfl
      have ac588999 : (fI (F588457 q588398) 10).toInt = p588408.toInt := by rw [he588460]; rfl
      have ac589000 : (fI (F588457 q588398) 32).toInt = p588419.toInt := by rw [he588460]; rfl
      exact G_iretA dr_cX17_count__245 rfl (Nat.le_of_ble_eq_true rfl) (Nat.le_of_ble_eq_true rfl) ⟨F588457, o588996, rfl, rfl, hT588968, hs588461, (Nat.le_of_ble_eq_true rfl), (Nat.le_of_ble_eq_true rfl), (by omega), (by omega), (by omega)⟩
  have ehs588462 := lv_neT hs588462 (show Int32.toInt 0 = 0 by decide)
  have ehs588501 := lv_neT hs588501 (show Int32.toInt 1 = 1 by decide)
  have ehs588542 := lv_neT hs588542 (show Int32.toInt 2 = 2 by decide)
  have ehs588547 := lv_neT hs588547 (show Int32.toInt 3 = 3 by decide)
  have ehs588552 := lv_neT hs588552 (show Int32.toInt 4 = 4 by decide)
  have ehs588557 := lv_neT hs588557 (show Int32.toInt 5 = 5 by decide)
  have ehs588598 := lv_neT hs588598 (show Int32.toInt 6 = 6 by decide)
  have ehs588883 := lv_neT hs588883 (show Int32.toInt 7 = 7 by decide)
  have ehs588895 := lv_neT hs588895 (show Int32.toInt 8 = 8 by decide)
  have ehs588907 := lv_neT hs588907 (show Int32.toInt 9 = 9 by decide)
  have ehs588919 := lv_neT hs588919 (show Int32.toInt 10 = 10 by decide)
  have ehs588960 := lv_neT hs588960 (show Int32.toInt 11 = 11 by decide)
  refine G_tableOut 246 dr_cX17_count__6 (by omega) (by decide) ?_
  refine G_aload_n 0 dr_cX17_count__246 rfl ?_
  refine G_iconst 1 dr_cX17_count__247 (by decide +kernel) ?_
  have hT589001 : RS D I P588396 F588457 γ el := RS_set hT n588459 htq588398 (by decide) ⟨q588405, q588406, p588407, p588408, p588409, p588410, p588411, p588412, p588413, p588414, p588415, p588416, p588417, 0, p588419, p588420, p588421, he588460, ⟨bp588407, bp588408, (hB588448.2.2.1), (hB588448.2.2.2.1), (hB588448.2.2.2.2.1), (hB588448.2.2.2.2.2.1), (hB588448.2.2.2.2.2.2.1), bp588419, (hB588448.2.2.2.2.2.2.2.2)⟩, ht588422, ht588423, ht588424, ht588425, ht588426, ht588427, ht588428, ht588429, ht588430, ht588431, ht588432, ht588433, ht588434, ht588435, ht588436, ht588437, ht588438, ht588439, ht588440, ht588441, ht588442, ht588443, ht588444, ht588445, hB588449⟩
  have ac589002 : (fI (F588457 q588398) 9).toInt = p588407.toInt := by rw [he588460]; rfl
  have ac589003 : (fI (F588457 q588398) 10).toInt = p588408.toInt := by rw [he588460]; rfl
  have ac589004 : (fI (F588457 q588398) 32).toInt = p588419.toInt := by rw [he588460]; rfl
  refine Gw_callV (As := [.int 1]) (gV_ok D I) (ct_580980_SpillForgeModel_no l hl0 D I γ el P588396 F588457 q588398 1 hT589001 htq588398) dr_cX17_count__248 ⟨wr_7_191, wr_1_14, wr_7_194, by decide, rfl, (Nat.le_of_ble_eq_true rfl), (Nat.le_of_ble_eq_true rfl)⟩ wr_7_193 wr_p_73 hm588403 he588460 rfl (show 0 + 0 ≤ 0 by first | omega | decide) (show 0 + 0 ≤ 0 by first | omega | decide) (Nat.le_of_ble_eq_true rfl) (fun r589008 w589009 dc589005 ds589006 hp589007 => ?_) (fun _ _ _ _ _ z => z.elim)
  obtain ⟨F589015, rfl, rfl, hT589016, hs589017, hdc, hds, x589010, x589011, x589012, x589013, ht589014⟩ := hp589007
  have hs589018 : rStr γ [] F588397 F589015 := rStr_tr hs588461 hs589017
  rw [show Int32.toInt 1 = 1 from by decide] at x589013
  change G _ _ _ _ _ _ _ (.int 0 :: _) _ _ _
  refine G_widen (cs' := 0) (sl' := 0) (by omega) (by omega) ?_
  have hm589019 : q588398 ∈ P588396 := RS_m hT589016 htq588398 (by decide)
  refine rk10_e (show rk_10 γ (F589015 q588398) from RS_o hT589016 htq588398) (fun q589021 q589022 p589023 p589024 p589025 p589026 p589027 p589028 p589029 p589030 p589031 p589032 p589033 p589034 p589035 p589036 p589037 he589020 hB589064 ht589038 ht589039 ht589040 ht589041 ht589042 ht589043 ht589044 ht589045 ht589046 ht589047 ht589048 ht589049 ht589050 ht589051 ht589052 ht589053 ht589054 ht589055 ht589056 ht589057 ht589058 ht589059 ht589060 ht589061 hB589065 => ?_)
  have ac589066 : (fI (F589015 q588398) 9).toInt = p589023.toInt := by rw [he589020]; rfl
  have bp589023 : gB p589023 0 1 := (hB589064.1)
  have ac589067 : (fI (F589015 q588398) 10).toInt = p589024.toInt := by rw [he589020]; rfl
  have bp589024 : gB p589024 0 1 := (hB589064.2.1)
  have ac589068 : (fI (F589015 q588398) 32).toInt = p589035.toInt := by rw [he589020]; rfl
  have bp589035 : gB p589035 0 8192 := (hB589064.2.2.2.2.2.2.2.1)
  have ac589069 : (fI (F589015 q588398) 9).toInt = p589023.toInt := by rw [he589020]; rfl
  have ac589070 : (fI (F589015 q588398) 10).toInt = p589024.toInt := by rw [he589020]; rfl
  have ac589071 : (fI (F589015 q588398) 32).toInt = p589035.toInt := by rw [he589020]; rfl
  exact G_iretA dr_cX17_count__251 rfl (Nat.le_of_ble_eq_true rfl) (Nat.le_of_ble_eq_true rfl) ⟨F589015, 0, rfl, rfl, hT589016, hs589018, (Nat.le_of_ble_eq_true rfl), (Nat.le_of_ble_eq_true rfl), (by have qa0 : Int32.toInt 0 = 0 := (by decide); omega), (by have qa0 : Int32.toInt 0 = 0 := (by decide); omega), (by have qa0 : Int32.toInt 0 = 0 := (by decide); omega)⟩
