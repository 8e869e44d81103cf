theorem dr_cX17_colourCount_0 : decode cX17_colourCount 0 = .ok (.iconst 0, 1) := by decide +kernel
theorem dr_cX17_colourCount_1 : decode cX17_colourCount 1 = .ok (.istore_n 1, 1) := by decide +kernel
theorem dr_cX17_colourCount_2 : decode cX17_colourCount 2 = .ok (.aload_n 0, 1) := by decide +kernel
theorem dr_cX17_colourCount_3 : decode cX17_colourCount 3 = .ok (.aload_n 0, 1) := by decide +kernel
theorem dr_cX17_colourCount_4 : decode cX17_colourCount 4 = .ok (.getfield 365, 3) := by decide +kernel
theorem dr_cX17_colourCount_7 : decode cX17_colourCount 7 = .ok (.iconst 0, 1) := by decide +kernel
theorem dr_cX17_colourCount_8 : decode cX17_colourCount 8 = .ok (.invokevirtual 243, 3) := by decide +kernel
theorem dr_cX17_colourCount_11 : decode cX17_colourCount 11 = .ok (.iconst 0, 1) := by decide +kernel
theorem dr_cX17_colourCount_12 : decode cX17_colourCount 12 = .ok (.istore_n 2, 1) := by decide +kernel
theorem dr_cX17_colourCount_13 : decode cX17_colourCount 13 = .ok (.iload_n 2, 1) := by decide +kernel
theorem dr_cX17_colourCount_14 : decode cX17_colourCount 14 = .ok (.sipush 2000, 3) := by decide +kernel
theorem dr_cX17_colourCount_17 : decode cX17_colourCount 17 = .ok (.if_icmp .ge 26, 3) := by decide +kernel
theorem dr_cX17_colourCount_43 : decode cX17_colourCount 43 = .ok (.iload_n 1, 1) := by decide +kernel
theorem dr_cX17_colourCount_44 : decode cX17_colourCount 44 = .ok (.ireturn, 1) := by decide +kernel
theorem dr_cX17_colourCount_20 : decode cX17_colourCount 20 = .ok (.iload_n 1, 1) := by decide +kernel
theorem dr_cX17_colourCount_21 : decode cX17_colourCount 21 = .ok (.aload_n 0, 1) := by decide +kernel
theorem dr_cX17_colourCount_22 : decode cX17_colourCount 22 = .ok (.getfield 131, 3) := by decide +kernel
theorem dr_cX17_colourCount_25 : decode cX17_colourCount 25 = .ok (.iload_n 2, 1) := by decide +kernel
theorem dr_cX17_colourCount_26 : decode cX17_colourCount 26 = .ok (.baload, 1) := by decide +kernel
theorem dr_cX17_colourCount_27 : decode cX17_colourCount 27 = .ok (.ifCond .eq 7, 3) := by decide +kernel
theorem dr_cX17_colourCount_34 : decode cX17_colourCount 34 = .ok (.iconst 0, 1) := by decide +kernel
theorem dr_cX17_colourCount_35 : decode cX17_colourCount 35 = .ok (.iadd, 1) := by decide +kernel
theorem dr_cX17_colourCount_36 : decode cX17_colourCount 36 = .ok (.istore_n 1, 1) := by decide +kernel
theorem dr_cX17_colourCount_37 : decode cX17_colourCount 37 = .ok (.iinc 2 1, 3) := by decide +kernel
theorem dr_cX17_colourCount_40 : decode cX17_colourCount 40 = .ok (.goto (-27), 3) := by decide +kernel
theorem dr_cX17_colourCount_30 : decode cX17_colourCount 30 = .ok (.iconst 1, 1) := by decide +kernel
theorem dr_cX17_colourCount_31 : decode cX17_colourCount 31 = .ok (.goto 4, 3) := by decide +kernel
theorem dr_cX17_count__0 : decode cX17_count_ 0 = .ok (.aload_n 0, 1) := by decide +kernel
theorem dr_cX17_count__1 : decode cX17_count_ 1 = .ok (.iconst 0, 1) := by decide +kernel
theorem dr_cX17_count__2 : decode cX17_count_ 2 = .ok (.putfield 380, 3) := by decide +kernel
theorem dr_cX17_count__5 : decode cX17_count_ 5 = .ok (.iload_n 1, 1) := by decide +kernel
theorem dr_cX17_count__6 : decode cX17_count_ 6 = .ok (.tableswitch 240 0 11 #[62, 81, 100, 105, 110, 115, 134, 150, 166, 182, 198, 219], 62) := by decide +kernel
theorem dr_cX17_count__68 : decode cX17_count_ 68 = .ok (.aload_n 0, 1) := by decide +kernel
theorem dr_cX17_count__69 : decode cX17_count_ 69 = .ok (.getfield 414, 3) := by decide +kernel
theorem dr_cX17_count__72 : decode cX17_count_ 72 = .ok (.ifCond .eq 13, 3) := by decide +kernel
theorem dr_cX17_count__85 : decode cX17_count_ 85 = .ok (.iconst 0, 1) := by decide +kernel
theorem dr_cX17_count__86 : decode cX17_count_ 86 = .ok (.ireturn, 1) := by decide +kernel
theorem dr_cX17_count__75 : decode cX17_count_ 75 = .ok (.aload_n 0, 1) := by decide +kernel
theorem dr_cX17_count__76 : decode cX17_count_ 76 = .ok (.getfield 361, 3) := by decide +kernel
theorem dr_cX17_count__79 : decode cX17_count_ 79 = .ok (.invokevirtual 96, 3) := by decide +kernel
theorem dr_cX17_count__82 : decode cX17_count_ 82 = .ok (.goto 4, 3) := by decide +kernel
theorem dr_cX17_count__87 : decode cX17_count_ 87 = .ok (.aload_n 0, 1) := by decide +kernel
theorem dr_cX17_count__88 : decode cX17_count_ 88 = .ok (.getfield 414, 3) := by decide +kernel
theorem dr_cX17_count__91 : decode cX17_count_ 91 = .ok (.ifCond .eq 13, 3) := by decide +kernel
theorem dr_cX17_count__104 : decode cX17_count_ 104 = .ok (.iconst 0, 1) := by decide +kernel
theorem dr_cX17_count__105 : decode cX17_count_ 105 = .ok (.ireturn, 1) := by decide +kernel
theorem dr_cX17_count__94 : decode cX17_count_ 94 = .ok (.aload_n 0, 1) := by decide +kernel
theorem dr_cX17_count__95 : decode cX17_count_ 95 = .ok (.getfield 361, 3) := by decide +kernel
theorem dr_cX17_count__98 : decode cX17_count_ 98 = .ok (.invokevirtual 234, 3) := by decide +kernel
theorem wr_10_225 : (Jvm.Cond.methodLink "SpillForgeModel" (234 : Nat) ({ cls := "SpillForgeModel$Code", name := "countRows", desc := "()I" } : Jvm.MethodName)) ∈ gw := gw_10 225 rfl rfl
theorem wr_10_228 : (Jvm.Cond.code ({ cls := "SpillForgeModel$Code", name := "countRows", desc := "()I" } : Jvm.MethodName) prog_16_method_7_code (3 : Nat) (Option.some Jvm.ClassFile.FieldType.int)) ∈ gw := gw_10 228 rfl rfl
theorem wr_10_226 : (Jvm.Cond.instanceMethod ({ cls := "SpillForgeModel$Code", name := "countRows", desc := "()I" } : Jvm.MethodName)) ∈ gw := gw_10 226 rfl rfl
theorem wr_10_227 : (Jvm.Cond.selects "SpillForgeModel$Code" ({ cls := "SpillForgeModel$Code", name := "countRows", desc := "()I" } : Jvm.MethodName) ({ cls := "SpillForgeModel$Code", name := "countRows", desc := "()I" } : Jvm.MethodName)) ∈ gw := gw_10 227 rfl rfl
theorem dr_cX17_count__101 : decode cX17_count_ 101 = .ok (.goto 4, 3) := by decide +kernel
theorem dr_cX17_count__106 : decode cX17_count_ 106 = .ok (.aload_n 0, 1) := by decide +kernel
theorem dr_cX17_count__107 : decode cX17_count_ 107 = .ok (.getfield 392, 3) := by decide +kernel
theorem wr_7_107 : (Jvm.Cond.fieldLink "SpillForgeModel" (392 : Nat) "SpillForgeModel" "reason" "I") ∈ gw := gw_7 107 rfl rfl
theorem dr_cX17_count__110 : decode cX17_count_ 110 = .ok (.ireturn, 1) := by decide +kernel
theorem dr_cX17_count__111 : decode cX17_count_ 111 = .ok (.aload_n 0, 1) := by decide +kernel
theorem dr_cX17_count__112 : decode cX17_count_ 112 = .ok (.getfield 383, 3) := by decide +kernel
theorem dr_cX17_count__115 : decode cX17_count_ 115 = .ok (.ireturn, 1) := by decide +kernel
theorem dr_cX17_count__116 : decode cX17_count_ 116 = .ok (.aload_n 0, 1) := by decide +kernel
theorem dr_cX17_count__117 : decode cX17_count_ 117 = .ok (.getfield 426, 3) := by decide +kernel
theorem wr_7_108 : (Jvm.Cond.fieldLink "SpillForgeModel" (426 : Nat) "SpillForgeModel" "results" "I") ∈ gw := gw_7 108 rfl rfl
theorem dr_cX17_count__120 : decode cX17_count_ 120 = .ok (.ireturn, 1) := by decide +kernel
theorem dr_cX17_count__121 : decode cX17_count_ 121 = .ok (.aload_n 0, 1) := by decide +kernel
theorem dr_cX17_count__122 : decode cX17_count_ 122 = .ok (.getfield 416, 3) := by decide +kernel
theorem dr_cX17_count__125 : decode cX17_count_ 125 = .ok (.ifCond .eq 13, 3) := by decide +kernel
theorem dr_cX17_count__138 : decode cX17_count_ 138 = .ok (.iconst 0, 1) := by decide +kernel
theorem dr_cX17_count__139 : decode cX17_count_ 139 = .ok (.ireturn, 1) := by decide +kernel
theorem dr_cX17_count__128 : decode cX17_count_ 128 = .ok (.aload_n 0, 1) := by decide +kernel
theorem dr_cX17_count__129 : decode cX17_count_ 129 = .ok (.getfield 365, 3) := by decide +kernel
theorem dr_cX17_count__132 : decode cX17_count_ 132 = .ok (.invokevirtual 234, 3) := by decide +kernel
theorem dr_cX17_count__135 : decode cX17_count_ 135 = .ok (.goto 4, 3) := by decide +kernel
theorem dr_cX17_count__140 : decode cX17_count_ 140 = .ok (.aload_n 0, 1) := by decide +kernel
theorem dr_cX17_count__141 : decode cX17_count_ 141 = .ok (.getfield 416, 3) := by decide +kernel
theorem dr_cX17_count__144 : decode cX17_count_ 144 = .ok (.ifCond .eq 10, 3) := by decide +kernel
theorem dr_cX17_count__154 : decode cX17_count_ 154 = .ok (.iconst 0, 1) := by decide +kernel
theorem dr_cX17_count__155 : decode cX17_count_ 155 = .ok (.ireturn, 1) := by decide +kernel
theorem dr_cX17_count__147 : decode cX17_count_ 147 = .ok (.aload_n 0, 1) := by decide +kernel
theorem dr_cX17_count__148 : decode cX17_count_ 148 = .ok (.invokevirtual 429, 3) := by decide +kernel
theorem wr_11_71 : (Jvm.Cond.methodLink "SpillForgeModel" (429 : Nat) ({ cls := "SpillForgeModel", name := "colourCount", desc := "()I" } : Jvm.MethodName)) ∈ gw := gw_11 71 rfl rfl
theorem wr_11_74 : (Jvm.Cond.code ({ cls := "SpillForgeModel", name := "colourCount", desc := "()I" } : Jvm.MethodName) prog_14_method_44_code (3 : Nat) (Option.some Jvm.ClassFile.FieldType.int)) ∈ gw := gw_11 74 rfl rfl
theorem wr_11_73 : (Jvm.Cond.instanceMethod ({ cls := "SpillForgeModel", name := "colourCount", desc := "()I" } : Jvm.MethodName)) ∈ gw := gw_11 73 rfl rfl
theorem wr_p_112 : Cond.selects "SpillForgeModel" ⟨"SpillForgeModel", "colourCount", "()I"⟩ ⟨"SpillForgeModel", "colourCount", "()I"⟩ ∈ gw := gw_p _ 112 rfl rfl rfl
theorem dr_cX17_count__151 : decode cX17_count_ 151 = .ok (.goto 4, 3) := by decide +kernel
theorem dr_cX17_count__156 : decode cX17_count_ 156 = .ok (.aload_n 0, 1) := by decide +kernel
theorem dr_cX17_count__157 : decode cX17_count_ 157 = .ok (.getfield 416, 3) := by decide +kernel
theorem dr_cX17_count__160 : decode cX17_count_ 160 = .ok (.ifCond .eq 10, 3) := by decide +kernel
theorem dr_cX17_count__170 : decode cX17_count_ 170 = .ok (.iconst 0, 1) := by decide +kernel
theorem dr_cX17_count__171 : decode cX17_count_ 171 = .ok (.ireturn, 1) := by decide +kernel
theorem dr_cX17_count__163 : decode cX17_count_ 163 = .ok (.aload_n 0, 1) := by decide +kernel
theorem dr_cX17_count__164 : decode cX17_count_ 164 = .ok (.getfield 224, 3) := by decide +kernel
theorem dr_cX17_count__167 : decode cX17_count_ 167 = .ok (.goto 4, 3) := by decide +kernel
theorem dr_cX17_count__172 : decode cX17_count_ 172 = .ok (.aload_n 0, 1) := by decide +kernel
theorem dr_cX17_count__173 : decode cX17_count_ 173 = .ok (.getfield 416, 3) := by decide +kernel
theorem dr_cX17_count__176 : decode cX17_count_ 176 = .ok (.ifCond .eq 10, 3) := by decide +kernel
theorem dr_cX17_count__186 : decode cX17_count_ 186 = .ok (.iconst 0, 1) := by decide +kernel
theorem dr_cX17_count__187 : decode cX17_count_ 187 = .ok (.ireturn, 1) := by decide +kernel
theorem dr_cX17_count__179 : decode cX17_count_ 179 = .ok (.aload_n 0, 1) := by decide +kernel
theorem dr_cX17_count__180 : decode cX17_count_ 180 = .ok (.getfield 237, 3) := by decide +kernel
theorem wr_7_86 : (Jvm.Cond.fieldLink "SpillForgeModel" (237 : Nat) "SpillForgeModel" "spilled" "I") ∈ gw := gw_7 86 rfl rfl
theorem dr_cX17_count__183 : decode cX17_count_ 183 = .ok (.goto 4, 3) := by decide +kernel
theorem dr_cX17_count__188 : decode cX17_count_ 188 = .ok (.aload_n 0, 1) := by decide +kernel
theorem dr_cX17_count__189 : decode cX17_count_ 189 = .ok (.getfield 416, 3) := by decide +kernel
theorem dr_cX17_count__192 : decode cX17_count_ 192 = .ok (.ifCond .eq 10, 3) := by decide +kernel
theorem dr_cX17_count__202 : decode cX17_count_ 202 = .ok (.iconst 0, 1) := by decide +kernel
theorem dr_cX17_count__203 : decode cX17_count_ 203 = .ok (.ireturn, 1) := by decide +kernel
theorem dr_cX17_count__195 : decode cX17_count_ 195 = .ok (.aload_n 0, 1) := by decide +kernel
theorem dr_cX17_count__196 : decode cX17_count_ 196 = .ok (.getfield 195, 3) := by decide +kernel
theorem dr_cX17_count__199 : decode cX17_count_ 199 = .ok (.goto 4, 3) := by decide +kernel
theorem dr_cX17_count__204 : decode cX17_count_ 204 = .ok (.aload_n 0, 1) := by decide +kernel
theorem dr_cX17_count__205 : decode cX17_count_ 205 = .ok (.getfield 416, 3) := by decide +kernel
theorem dr_cX17_count__208 : decode cX17_count_ 208 = .ok (.ifCond .eq 15, 3) := by decide +kernel
theorem dr_cX17_count__223 : decode cX17_count_ 223 = .ok (.iconst 0, 1) := by decide +kernel
theorem dr_cX17_count__224 : decode cX17_count_ 224 = .ok (.ireturn, 1) := by decide +kernel
theorem dr_cX17_count__211 : decode cX17_count_ 211 = .ok (.aload_n 0, 1) := by decide +kernel
theorem dr_cX17_count__212 : decode cX17_count_ 212 = .ok (.getfield 365, 3) := by decide +kernel
theorem dr_cX17_count__215 : decode cX17_count_ 215 = .ok (.bipush 21, 2) := by decide +kernel
theorem dr_cX17_count__217 : decode cX17_count_ 217 = .ok (.invokevirtual 432, 3) := by decide +kernel
theorem wr_11_75 : (Jvm.Cond.methodLink "SpillForgeModel" (432 : Nat) ({ cls := "SpillForgeModel$Code", name := "count", desc := "(I)I" } : Jvm.MethodName)) ∈ gw := gw_11 75 rfl rfl
theorem wr_11_78 : (Jvm.Cond.code ({ cls := "SpillForgeModel$Code", name := "count", desc := "(I)I" } : Jvm.MethodName) prog_16_method_8_code (5 : Nat) (Option.some Jvm.ClassFile.FieldType.int)) ∈ gw := gw_11 78 rfl rfl
theorem wr_11_76 : (Jvm.Cond.instanceMethod ({ cls := "SpillForgeModel$Code", name := "count", desc := "(I)I" } : Jvm.MethodName)) ∈ gw := gw_11 76 rfl rfl
theorem wr_11_77 : (Jvm.Cond.selects "SpillForgeModel$Code" ({ cls := "SpillForgeModel$Code", name := "count", desc := "(I)I" } : Jvm.MethodName) ({ cls := "SpillForgeModel$Code", name := "count", desc := "(I)I" } : Jvm.MethodName)) ∈ gw := gw_11 77 rfl rfl
theorem dr_cX17_count__220 : decode cX17_count_ 220 = .ok (.goto 4, 3) := by decide +kernel
theorem dr_cX17_count__225 : decode cX17_count_ 225 = .ok (.aload_n 0, 1) := by decide +kernel
theorem dr_cX17_count__226 : decode cX17_count_ 226 = .ok (.getfield 416, 3) := by decide +kernel
theorem dr_cX17_count__229 : decode cX17_count_ 229 = .ok (.ifCond .eq 15, 3) := by decide +kernel
theorem dr_cX17_count__244 : decode cX17_count_ 244 = .ok (.iconst 0, 1) := by decide +kernel
theorem dr_cX17_count__245 : decode cX17_count_ 245 = .ok (.ireturn, 1) := by decide +kernel
theorem dr_cX17_count__232 : decode cX17_count_ 232 = .ok (.aload_n 0, 1) := by decide +kernel
theorem dr_cX17_count__233 : decode cX17_count_ 233 = .ok (.getfield 365, 3) := by decide +kernel
theorem dr_cX17_count__236 : decode cX17_count_ 236 = .ok (.bipush 23, 2) := by decide +kernel
theorem dr_cX17_count__238 : decode cX17_count_ 238 = .ok (.invokevirtual 432, 3) := by decide +kernel
theorem dr_cX17_count__241 : decode cX17_count_ 241 = .ok (.goto 4, 3) := by decide +kernel
theorem dr_cX17_count__246 : decode cX17_count_ 246 = .ok (.aload_n 0, 1) := by decide +kernel
theorem dr_cX17_count__247 : decode cX17_count_ 247 = .ok (.iconst 1, 1) := by decide +kernel
theorem dr_cX17_count__248 : decode cX17_count_ 248 = .ok (.invokevirtual 385, 3) := by decide +kernel
theorem dr_cX17_count__251 : decode cX17_count_ 251 = .ok (.ireturn, 1) := by decide +kernel
abbrev ky_570992_SpillForgeModel_colourCount : gKey := (cX17_colourCount, 3, "SpillForgeModel", (some FieldType.int), [], "colourCount", fun _ _ => True)
def pt_570992_SpillForgeModel_colourCount (D : va_G) (I : FieldType → ClassId) (γ el : Nat → Nat → Nat) (P570988 : List Nat) (F570989 : Nat → va_E) (q570990 : Nat) : Option Value → va_W → Nat → Nat → Prop := fun r w dc ds => ∃ (F571243 : Nat → va_E) (o571242 : Int32), r = some (.int o571242) ∧ w = va_pl P570988 F571243 ∧ RS D I P570988 F571243 γ el ∧ rStr γ [] F570989 F571243 ∧ dc ≤ 0 ∧ ds ≤ 0 ∧ (F571243 q570990 = F570989 q570990)
set_option maxRecDepth 100000 in
set_option maxHeartbeats 4000000 in
theorem ct_570992_SpillForgeModel_colourCount (l : Launch) (hl0 : l.stackTraces = false) (D : va_G) (I : FieldType → ClassId) (γ el : Nat → Nat → Nat) (P570988 : List Nat) (F570989 : Nat → va_E) (q570990 : Nat) (hT : RS D I P570988 F570989 γ el) (htq570990 : rKd γ q570990 10) (x570991 : 0 < γ 6 1) : CtA (gV D I) l yX17_colourCount cX17_colourCount 3 (some FieldType.int) 6 141 0 0 [.ref q570990] (va_pl P570988 F570989) (pt_570992_SpillForgeModel_colourCount D I γ el P570988 F570989 q570990) gNA := by
  refine CtA_of hl0 (by decide) (Nat.le_of_ble_eq_true rfl) ?_
  have hm570993 : q570990 ∈ P570988 := RS_m hT htq570990 (by decide)
  refine rk10_e (show rk_10 γ (F570989 q570990) from RS_o hT htq570990) (fun q570995 q570996 p570997 p570998 p570999 p571000 p571001 p571002 p571003 p571004 p571005 p571006 p571007 p571008 p571009 p571010 p571011 he570994 hB571038 ht571012 ht571013 ht571014 ht571015 ht571016 ht571017 ht571018 ht571019 ht571020 ht571021 ht571022 ht571023 ht571024 ht571025 ht571026 ht571027 ht571028 ht571029 ht571030 ht571031 ht571032 ht571033 ht571034 ht571035 hB571039 => ?_)
  have fq571040 : γ 6 (γ 1 (γ 9 6)) = γ 6 0 := by rw [show γ 1 (γ 9 6) = 0 from ht571033]
  have fq571041 : γ 6 (γ 1 (γ 9 7)) = γ 6 1 := by rw [show γ 1 (γ 9 7) = 1 from ht571034]
  have fq571042 : γ 6 (γ 1 (γ 9 8)) = γ 6 2 := by rw [show γ 1 (γ 9 8) = 2 from ht571035]
  have r571043 : p571011.toInt ≤ γ 12 q570996 := by have z := hB571039; unfold rM2 at z; exact z.2.2
  refine G_iconst 0 dr_cX17_colourCount_0 (by decide +kernel) ?_
  refine G_istore_n (L' := [(1, .int 0), (0, .ref q570990)]) dr_cX17_colourCount_1 (Nat.le_of_ble_eq_true rfl) rfl ?_
  refine G_aload_n 1 dr_cX17_colourCount_2 rfl ?_
  refine G_aload_n 1 dr_cX17_colourCount_3 rfl ?_
  refine Gp_get 7 hm570993 he570994 dr_cX17_colourCount_4 (gk_X17 D I) (Nat.le_of_ble_eq_true rfl) wr_7_81 rfl ?_
  refine G_iconst 0 dr_cX17_colourCount_7 (by decide +kernel) ?_
  refine Gw_callV (As := [.ref (γ 9 7), .int 0]) (gV_ok D I) (ct_270169_SpillForgeModel_graph l hl0 D I γ el P570988 F570989 q570990 (γ 9 7) 0 hT htq570990 ht571021 (gB_w (gBl (show Int32.toInt 0 = 0 by decide)) (by decide) (by decide)) (by have qa0 : Int32.toInt 0 = 0 := (by decide); omega)) dr_cX17_colourCount_8 ⟨wr_10_229, wr_1_14, wr_10_232, by decide, rfl, (Nat.le_of_ble_eq_true rfl), (Nat.le_of_ble_eq_true rfl)⟩ wr_10_231 wr_p_99 hm570993 he570994 rfl (show 0 + 0 ≤ 0 by first | omega | decide) (show 0 + 0 ≤ 0 by first | omega | decide) (Nat.le_of_ble_eq_true rfl) (fun r571047 w571048 dc571044 ds571045 hp571046 => ?_) (fun _ _ _ _ _ z => z.elim)
  obtain ⟨F571051, rfl, rfl, hT571052, hs571053, hdc, hds, x571049, x571050⟩ := hp571046
  have hs571054 : rStr γ [] F570989 F571051 := rStr_tr (rStr_rf (γ := γ) (W := []) (F := F570989)) hs571053
  have kp571055 : F571051 q570990 = F570989 q570990 := x571050
  have he571056 : F571051 q570990 = .inr (22, [.ref (γ 9 0), .ref (γ 9 1), .ref (γ 9 2), .ref (γ 9 3), .ref (γ 9 4), .ref (γ 9 5), .ref (γ 9 6), .ref (γ 9 7), .ref (γ 9 8), .int p570997, .int p570998, .int p570999, .int p571000, .int p571001, .int p571002, .ref (γ 9 15), .ref (γ 9 16), .ref (γ 9 17), .ref (γ 9 18), .ref (γ 9 19), .ref (γ 9 20), .ref (γ 9 21), .ref (γ 9 22), .int p571003, .int p571004, .int p571005, .int p571006, .int p571007, .ref q570995, .ref (γ 9 29), .int p571008, .ref (γ 9 31), .int p571009, .int p571010, .int p571011, .ref q570996]) := (x571050).trans he570994
  rw [show Int32.toInt 0 = 0 from by decide] at x571049
  change G _ _ _ _ _ _ _ _ _ _ _
  refine G_widen (cs' := 0) (sl' := 0) (by omega) (by omega) ?_
  refine G_iconst 0 dr_cX17_colourCount_11 (by decide +kernel) ?_
  refine G_istore_n (L' := [(2, .int 0), (1, .int 0), (0, .ref q570990)]) dr_cX17_colourCount_12 (Nat.le_of_ble_eq_true rfl) rfl ?_
  have hlp13_571226 : ∀ (n13_571226 : Nat) (g571225 : Int32) (g571226 : Int32), gB g571225 0 2000 → ((2001 : Int) - g571225.toInt).toNat < n13_571226 → G (gV D I) l (gRm 6 141 0 0) (gMA (gV D I) (pt_570992_SpillForgeModel_colourCount D I γ el P570988 F570989 q570990) gNA 0 0) ky_570992_SpillForgeModel_colourCount 13 [(2, .int g571225), (1, .int g571226), (0, .ref q570990)] [] (va_pl P570988 F571051) 0 0 := by
    intro n13_571226
    induction n13_571226 with
    | zero => intro g571225 g571226 bg571225 hm13_571226; exact absurd hm13_571226 (Nat.not_lt_zero _)
    | succ n13_571226 ih13_571226 =>
      intro g571225 g571226 bg571225 hm13_571226
      have bg571226 := gB_any g571226
      refine G_iload_n 0 dr_cX17_colourCount_13 rfl ?_
      refine G_sipush 2000 dr_cX17_colourCount_14 (by decide +kernel) ?_
      refine G_icmp_ge 43 dr_cX17_colourCount_17 (by decide +kernel) (fun hc571228 => ?_) (fun hc571228 => ?_)
      · have r571229 : 2000 ≤ g571225.toInt := gj_leL hc571228 (show Int32.toInt 2000 = 2000 by decide)
        have bg571225' : gB g571225 2000 2000 := ⟨by omega, by omega⟩
        refine G_iload_n 1 dr_cX17_colourCount_43 rfl ?_
        exact G_iretA dr_cX17_colourCount_44 rfl (Nat.le_of_ble_eq_true rfl) (Nat.le_of_ble_eq_true rfl) ⟨F571051, g571226, rfl, rfl, hT571052, hs571054, (Nat.le_of_ble_eq_true rfl), (Nat.le_of_ble_eq_true rfl), kp571055⟩
      · have r571230 : g571225.toInt < 2000 := gj_nleL hc571228 (show Int32.toInt 2000 = 2000 by decide)
        have bg571225' : gB g571225 0 1999 := ⟨by omega, by omega⟩
        refine G_iload_n 1 dr_cX17_colourCount_20 rfl ?_
        refine G_aload_n 2 dr_cX17_colourCount_21 rfl ?_
        refine Gp_get 3 hm570993 he571056 dr_cX17_colourCount_22 (gk_X17 D I) (Nat.le_of_ble_eq_true rfl) wr_7_77 rfl ?_
        refine G_iload_n 0 dr_cX17_colourCount_25 rfl ?_
        have hm571231 : (γ 9 3) ∈ P570988 := RS_m hT571052 ht571017 (by decide)
        obtain ⟨f571233, he571232, bf571233⟩ := show rk_14 I (F571051 (γ 9 3)) from RS_o hT571052 ht571017
        refine Gp_zald 3 hm571231 he571232 dr_cX17_colourCount_26 rfl (gB_in bg571225' (by decide) (by decide)) (G_nam fun z571234 hz571234 => ?_)
        have bz571234 : gB z571234 0 1 := by rw [hz571234]; exact bf571233 _
        refine G_if_eq 34 dr_cX17_colourCount_27 (by decide +kernel) (fun hc571235 => ?_) (fun hc571235 => ?_)
        · have r571236 : z571234.toInt = 0 := gj_eq hc571235 (show Int32.toInt 0 = 0 by decide)
          have bz571234' : gB z571234 0 0 := gB_t0 r571236
          refine G_iconst 0 dr_cX17_colourCount_34 (by decide +kernel) ?_
          refine G_iadd dr_cX17_colourCount_35 (G_nam fun z571237 hz571237 => ?_)
          have ez571237 : z571237.toInt = g571226.toInt + 0 := by rw [gI_add hz571237 bg571226 (gBl (show Int32.toInt 0 = 0 by decide)) (by decide) (by decide), show Int32.toInt 0 = 0 from by decide]
          have bz571237 : gB z571237 (-2147483648) 2147483647 := gB_add (gI_add hz571237 bg571226 (gBl (show Int32.toInt 0 = 0 by decide)) (by decide) (by decide)) bg571226 (gBl (show Int32.toInt 0 = 0 by decide)) (by decide) (by decide)
          refine G_istore_n (L' := [(1, .int z571237), (2, .int g571225), (0, .ref q570990)]) dr_cX17_colourCount_36 (Nat.le_of_ble_eq_true rfl) rfl ?_
          obtain ⟨z571238, hz571238⟩ : ∃ z : Int32, z = g571225 + Int32.ofInt 1 := ⟨_, rfl⟩
          have ez571238 : z571238.toInt = g571225.toInt + 1 := gI_inc hz571238 (by decide) bg571225' (by decide) (by decide)
          have bz571238 : gB z571238 1 2000 := ⟨by omega, by omega⟩
          refine G_iinc (L' := [(2, .int z571238), (1, .int z571237), (0, .ref q570990)]) z571238 1 dr_cX17_colourCount_37 rfl hz571238.symm (Nat.le_of_ble_eq_true rfl) rfl ?_
          refine G_goto 13 dr_cX17_colourCount_40 (by decide +kernel) ?_
          exact ih13_571226 z571238 z571237 (gB_w bz571238 (by decide) (by decide)) (mz_up ez571238 (Int.le_trans bg571225'.2 (by decide)) hm13_571226)
        · have r571239 : z571234.toInt ≠ 0 := gj_neq hc571235 (show Int32.toInt 0 = 0 by decide)
          have bz571234' : gB z571234 1 1 := gB_t1 bz571234 r571239
          refine G_iconst 1 dr_cX17_colourCount_30 (by decide +kernel) ?_
          refine G_goto 35 dr_cX17_colourCount_31 (by decide +kernel) ?_
          refine G_iadd dr_cX17_colourCount_35 (G_nam fun z571240 hz571240 => ?_)
          have bz571240 : gB z571240 (-2147483648) 2147483647 := gB_any z571240
          refine G_istore_n (L' := [(1, .int z571240), (2, .int g571225), (0, .ref q570990)]) dr_cX17_colourCount_36 (Nat.le_of_ble_eq_true rfl) rfl ?_
          obtain ⟨z571241, hz571241⟩ : ∃ z : Int32, z = g571225 + Int32.ofInt 1 := ⟨_, rfl⟩
          have ez571241 : z571241.toInt = g571225.toInt + 1 := gI_inc hz571241 (by decide) bg571225' (by decide) (by decide)
          have bz571241 : gB z571241 1 2000 := ⟨by omega, by omega⟩
          refine G_iinc (L' := [(2, .int z571241), (1, .int z571240), (0, .ref q570990)]) z571241 1 dr_cX17_colourCount_37 rfl hz571241.symm (Nat.le_of_ble_eq_true rfl) rfl ?_
          refine G_goto 13 dr_cX17_colourCount_40 (by decide +kernel) ?_
          exact ih13_571226 z571241 z571240 (gB_w bz571241 (by decide) (by decide)) (mz_up ez571241 (Int.le_trans bg571225'.2 (by decide)) hm13_571226)
  exact hlp13_571226 (((2001 : Int) - 0).toNat + 1) 0 0 (gB_w (gBl (show Int32.toInt 0 = 0 by decide)) (by decide) (by decide)) (Nat.lt_succ_self _)
abbrev ky_570785_SpillForgeModel_count : gKey := (cX17_count_, 2, "SpillForgeModel", (some FieldType.int), [], "count", fun _ _ => True)
def pt_570785_SpillForgeModel_count (D : va_G) (I : FieldType → ClassId) (γ el : Nat → Nat → Nat) (P570779 : List Nat) (F570780 : Nat → va_E) (q570781 : Nat) (p570782 : Int32) : Option Value → va_W → Nat → Nat → Prop := fun r w dc ds => ∃ (F571450 : Nat → va_E) (o571449 : Int32), r = some (.int o571449) ∧ w = va_pl P570779 F571450 ∧ RS D I P570779 F571450 γ el ∧ rStr γ [] F570780 F571450 ∧ dc ≤ 0 ∧ ds ≤ 0 ∧ (fI (F571450 q570781) 9).toInt = (fI (F570780 q570781) 9).toInt ∧ (fI (F571450 q570781) 10).toInt = (fI (F570780 q570781) 10).toInt ∧ (fI (F571450 q570781) 32).toInt = (fI (F570780 q570781) 32).toInt
set_option maxRecDepth 100000 in
set_option maxHeartbeats 4000000 in
theorem ct_570785_SpillForgeModel_count (l : Launch) (hl0 : l.stackTraces = false) (D : va_G) (I : FieldType → ClassId) (γ el : Nat → Nat → Nat) (P570779 : List Nat) (F570780 : Nat → va_E) (q570781 : Nat) (p570782 : Int32) (hT : RS D I P570779 F570780 γ el) (htq570781 : rKd γ q570781 10) (x570783 : ((fI (F570780 q570781) 9).toInt = 0 ∨ 0 < γ 6 0)) (x570784 : ((fI (F570780 q570781) 10).toInt = 0 ∨ 0 < γ 6 1)) : CtA (gV D I) l yX17_count_ cX17_count_ 2 (some FieldType.int) 7 163 0 0 [.ref q570781, .int p570782] (va_pl P570779 F570780) (pt_570785_SpillForgeModel_count D I γ el P570779 F570780 q570781 p570782) gNA := by
  refine CtA_of hl0 (by decide) (Nat.le_of_ble_eq_true rfl) ?_
  have bp570782 := gB_any p570782
  have hm570786 : q570781 ∈ P570779 := RS_m hT htq570781 (by decide)
  refine rk10_e (show rk_10 γ (F570780 q570781) from RS_o hT htq570781) (fun q570788 q570789 p570790 p570791 p570792 p570793 p570794 p570795 p570796 p570797 p570798 p570799 p570800 p570801 p570802 p570803 p570804 he570787 hB570831 ht570805 ht570806 ht570807 ht570808 ht570809 ht570810 ht570811 ht570812 ht570813 ht570814 ht570815 ht570816 ht570817 ht570818 ht570819 ht570820 ht570821 ht570822 ht570823 ht570824 ht570825 ht570826 ht570827 ht570828 hB570832 => ?_)
  have ac570833 : (fI (F570780 q570781) 9).toInt = p570790.toInt := by rw [he570787]; rfl
  have bp570790 : gB p570790 0 1 := (hB570831.1)
  have ac570834 : (fI (F570780 q570781) 10).toInt = p570791.toInt := by rw [he570787]; rfl
  have bp570791 : gB p570791 0 1 := (hB570831.2.1)
  have ac570835 : (fI (F570780 q570781) 32).toInt = p570802.toInt := by rw [he570787]; rfl
  have bp570802 : gB p570802 0 8192 := (hB570831.2.2.2.2.2.2.2.1)
  have fq570836 : γ 6 (γ 1 (γ 9 6)) = γ 6 0 := by rw [show γ 1 (γ 9 6) = 0 from ht570826]
  have fq570837 : γ 6 (γ 1 (γ 9 7)) = γ 6 1 := by rw [show γ 1 (γ 9 7) = 1 from ht570827]
  have fq570838 : γ 6 (γ 1 (γ 9 8)) = γ 6 2 := by rw [show γ 1 (γ 9 8) = 2 from ht570828]
  have r570839 : p570804.toInt ≤ γ 12 q570789 := by have z := hB570832; unfold rM2 at z; exact z.2.2
  refine G_aload_n 0 dr_cX17_count__0 rfl ?_
  refine G_iconst 0 dr_cX17_count__1 (by decide +kernel) ?_
  refine Gp_put 30 hm570786 he570787 dr_cX17_count__2 (gk_X17 D I) (Nat.le_of_ble_eq_true rfl) wr_7_104 rfl rfl rfl (Nat.le_of_ble_eq_true rfl) (fun F570840 e570841 n570842 => ?_)
  have he570843 : F570840 q570781 = .inr (22, [.ref (γ 9 0), .ref (γ 9 1), .ref (γ 9 2), .ref (γ 9 3), .ref (γ 9 4), .ref (γ 9 5), .ref (γ 9 6), .ref (γ 9 7), .ref (γ 9 8), .int p570790, .int p570791, .int p570792, .int p570793, .int p570794, .int p570795, .ref (γ 9 15), .ref (γ 9 16), .ref (γ 9 17), .ref (γ 9 18), .ref (γ 9 19), .ref (γ 9 20), .ref (γ 9 21), .ref (γ 9 22), .int p570796, .int p570797, .int p570798, .int p570799, .int p570800, .ref q570788, .ref (γ 9 29), .int 0, .ref (γ 9 31), .int p570802, .int p570803, .int p570804, .ref q570789]) := e570841
  have hs570844 : rStr γ [] F570780 F570840 := rStr_put (rStr_rf (γ := γ) (W := []) (F := F570780)) n570842 htq570781 (by decide)
  refine G_iload_n 1 dr_cX17_count__5 rfl ?_
  by_cases hs570845 : p570782 = 0
  · have ehs570845 : p570782.toInt = 0 := gj_eq hs570845 (show Int32.toInt 0 = 0 by decide)
    have bp570782' : gB p570782 0 0 := ⟨by omega, by omega⟩
    refine G_eqi (y := 0) hs570845 ?_
    refine G_tableIn 68 dr_cX17_count__6 (by decide) (by decide) (by first | rfl | decide) (by decide) ?_
    refine G_aload_n 0 dr_cX17_count__68 rfl ?_
    refine Gp_get 9 hm570786 he570843 dr_cX17_count__69 (gk_X17 D I) (Nat.le_of_ble_eq_true rfl) wr_7_83 rfl ?_
    refine G_if_eq 85 dr_cX17_count__72 (by decide +kernel) (fun hc570846 => ?_) (fun hc570846 => ?_)
    · have r570847 : p570790.toInt = 0 := gj_eq hc570846 (show Int32.toInt 0 = 0 by decide)
      have bp570790' : gB p570790 0 0 := gB_t0 r570847
      refine G_iconst 0 dr_cX17_count__85 (by decide +kernel) ?_
      have hT570848 : RS D I P570779 F570840 γ el := RS_set hT n570842 htq570781 (by decide) ⟨q570788, q570789, p570790, p570791, p570792, p570793, p570794, p570795, p570796, p570797, p570798, p570799, p570800, 0, p570802, p570803, p570804, he570843, ⟨(gB_w bp570790' (by decide) (by decide)), bp570791, (hB570831.2.2.1), (hB570831.2.2.2.1), (hB570831.2.2.2.2.1), (hB570831.2.2.2.2.2.1), (hB570831.2.2.2.2.2.2.1), bp570802, (hB570831.2.2.2.2.2.2.2.2)⟩, ht570805, ht570806, ht570807, ht570808, ht570809, ht570810, ht570811, ht570812, ht570813, ht570814, ht570815, ht570816, ht570817, ht570818, ht570819, ht570820, ht570821, ht570822, ht570823, ht570824, ht570825, ht570826, ht570827, ht570828, hB570832⟩
      have ac570849 : (fI (F570840 q570781) 9).toInt = p570790.toInt := by rw [he570843]; rfl
      have ac570850 : (fI (F570840 q570781) 10).toInt = p570791.toInt := by rw [he570843]; rfl
      have ac570851 : (fI (F570840 q570781) 32).toInt = p570802.toInt := by rw [he570843]; rfl
      exact G_iretA dr_cX17_count__86 rfl (Nat.le_of_ble_eq_true rfl) (Nat.le_of_ble_eq_true rfl) ⟨F570840, 0, rfl, rfl, hT570848, hs570844, (Nat.le_of_ble_eq_true rfl), (Nat.le_of_ble_eq_true rfl), (by have qa0 : Int32.toInt 0 = 0 := (by decide); omega), (by have qa0 : Int32.toInt 0 = 0 := (by decide); omega), (by have qa0 : Int32.toInt 0 = 0 := (by decide); omega)⟩
    · have r570852 : p570790.toInt ≠ 0 := gj_neq hc570846 (show Int32.toInt 0 = 0 by decide)
      have bp570790' : gB p570790 1 1 := gB_t1 bp570790 r570852
      refine G_aload_n 0 dr_cX17_count__75 rfl ?_
      refine Gp_get 6 hm570786 he570843 dr_cX17_count__76 (gk_X17 D I) (Nat.le_of_ble_eq_true rfl) wr_7_80 rfl ?_
      have hT570853 : RS D I P570779 F570840 γ el := RS_set hT n570842 htq570781 (by decide) ⟨q570788, q570789, p570790, p570791, p570792, p570793, p570794, p570795, p570796, p570797, p570798, p570799, p570800, 0, p570802, p570803, p570804, he570843, ⟨(gB_w bp570790' (by decide) (by decide)), bp570791, (hB570831.2.2.1), (hB570831.2.2.2.1), (hB570831.2.2.2.2.1), (hB570831.2.2.2.2.2.1), (hB570831.2.2.2.2.2.2.1), bp570802, (hB570831.2.2.2.2.2.2.2.2)⟩, ht570805, ht570806, ht570807, ht570808, ht570809, ht570810, ht570811, ht570812, ht570813, ht570814, ht570815, ht570816, ht570817, ht570818, ht570819, ht570820, ht570821, ht570822, ht570823, ht570824, ht570825, ht570826, ht570827, ht570828, hB570832⟩
      have hm570854 : (γ 9 6) ∈ P570779 := RS_m hT570853 ht570813 (by decide)
      obtain ⟨q570856, q570857, p570858, p570859, he570855, ht570875, ht570860, ht570861, ht570862, ht570863, r570864, r570865, r570866, r570867, r570868, r570869, r570870, r570871, r570872, r570873, r570874⟩ := show rk_9 γ el (γ 9 6) (F570840 (γ 9 6)) from RS_o hT570853 ht570813
      have bp570858 : gB p570858 0 1000000 := ⟨by omega, by omega⟩
      have bp570859 : gB p570859 0 1000000 := ⟨by omega, by omega⟩
      refine Gw_callV (As := []) (gV_ok D I) (cp_12496_Code_size l hl0 D I P570779 F570840 (γ 9 6) q570856 q570857 p570858 p570859 hm570854 he570855) dr_cX17_count__79 ⟨wr_10_156, wr_1_15, wr_9_127, by decide, rfl, (Nat.le_of_ble_eq_true rfl), (Nat.le_of_ble_eq_true rfl)⟩ wr_9_125 wr_9_126 hm570854 he570855 rfl (show 0 + 0 ≤ 0 by first | omega | decide) (show 0 + 0 ≤ 0 by first | omega | decide) (Nat.le_of_ble_eq_true rfl) (fun r570879 w570880 dc570876 ds570877 hp570878 => ?_) (fun _ _ _ _ _ z => z.elim)
      obtain ⟨rfl, rfl, hdc, hds⟩ := hp570878
      change G _ _ _ _ _ _ _ (.int p570859 :: _) _ _ _
      refine G_widen (cs' := 0) (sl' := 0) (by omega) (by omega) ?_
      refine G_goto 86 dr_cX17_count__82 (by decide +kernel) ?_
      have ac570881 : (fI (F570840 q570781) 9).toInt = p570790.toInt := by rw [he570843]; rfl
      have ac570882 : (fI (F570840 q570781) 10).toInt = p570791.toInt := by rw [he570843]; rfl
      have ac570883 : (fI (F570840 q570781) 32).toInt = p570802.toInt := by rw [he570843]; rfl
      exact G_iretA dr_cX17_count__86 rfl (Nat.le_of_ble_eq_true rfl) (Nat.le_of_ble_eq_true rfl) ⟨F570840, p570859, rfl, rfl, hT570853, hs570844, (Nat.le_of_ble_eq_true rfl), (Nat.le_of_ble_eq_true rfl), (by omega), (by omega), (by omega)⟩
  by_cases hs570884 : p570782 = 1
  · have ehs570884 : p570782.toInt = 1 := gj_eq hs570884 (show Int32.toInt 1 = 1 by decide)
    have bp570782' : gB p570782 1 1 := ⟨by omega, by omega⟩
    refine G_eqi (y := 1) hs570884 ?_
    refine G_tableIn 87 dr_cX17_count__6 (by decide) (by decide) (by first | rfl | decide) (by decide) ?_
    refine G_aload_n 0 dr_cX17_count__87 rfl ?_
    refine Gp_get 9 hm570786 he570843 dr_cX17_count__88 (gk_X17 D I) (Nat.le_of_ble_eq_true rfl) wr_7_83 rfl ?_
    refine G_if_eq 104 dr_cX17_count__91 (by decide +kernel) (fun hc570885 => ?_) (fun hc570885 => ?_)
    · have r570886 : p570790.toInt = 0 := gj_eq hc570885 (show Int32.toInt 0 = 0 by decide)
      have bp570790' : gB p570790 0 0 := gB_t0 r570886
      refine G_iconst 0 dr_cX17_count__104 (by decide +kernel) ?_
      have hT570887 : RS D I P570779 F570840 γ el := RS_set hT n570842 htq570781 (by decide) ⟨q570788, q570789, p570790, p570791, p570792, p570793, p570794, p570795, p570796, p570797, p570798, p570799, p570800, 0, p570802, p570803, p570804, he570843, ⟨(gB_w bp570790' (by decide) (by decide)), bp570791, (hB570831.2.2.1), (hB570831.2.2.2.1), (hB570831.2.2.2.2.1), (hB570831.2.2.2.2.2.1), (hB570831.2.2.2.2.2.2.1), bp570802, (hB570831.2.2.2.2.2.2.2.2)⟩, ht570805, ht570806, ht570807, ht570808, ht570809, ht570810, ht570811, ht570812, ht570813, ht570814, ht570815, ht570816, ht570817, ht570818, ht570819, ht570820, ht570821, ht570822, ht570823, ht570824, ht570825, ht570826, ht570827, ht570828, hB570832⟩
      have ac570888 : (fI (F570840 q570781) 9).toInt = p570790.toInt := by rw [he570843]; rfl
      have ac570889 : (fI (F570840 q570781) 10).toInt = p570791.toInt := by rw [he570843]; rfl
      have ac570890 : (fI (F570840 q570781) 32).toInt = p570802.toInt := by rw [he570843]; rfl
      exact G_iretA dr_cX17_count__105 rfl (Nat.le_of_ble_eq_true rfl) (Nat.le_of_ble_eq_true rfl) ⟨F570840, 0, rfl, rfl, hT570887, hs570844, (Nat.le_of_ble_eq_true rfl), (Nat.le_of_ble_eq_true rfl), (by have qa0 : Int32.toInt 0 = 0 := (by decide); omega), (by have qa0 : Int32.toInt 0 = 0 := (by decide); omega), (by have qa0 : Int32.toInt 0 = 0 := (by decide); omega)⟩
    · have r570891 : p570790.toInt ≠ 0 := gj_neq hc570885 (show Int32.toInt 0 = 0 by decide)
      have bp570790' : gB p570790 1 1 := gB_t1 bp570790 r570891
      refine G_aload_n 0 dr_cX17_count__94 rfl ?_
      refine Gp_get 6 hm570786 he570843 dr_cX17_count__95 (gk_X17 D I) (Nat.le_of_ble_eq_true rfl) wr_7_80 rfl ?_
      have hT570892 : RS D I P570779 F570840 γ el := RS_set hT n570842 htq570781 (by decide) ⟨q570788, q570789, p570790, p570791, p570792, p570793, p570794, p570795, p570796, p570797, p570798, p570799, p570800, 0, p570802, p570803, p570804, he570843, ⟨(gB_w bp570790' (by decide) (by decide)), bp570791, (hB570831.2.2.1), (hB570831.2.2.2.1), (hB570831.2.2.2.2.1), (hB570831.2.2.2.2.2.1), (hB570831.2.2.2.2.2.2.1), bp570802, (hB570831.2.2.2.2.2.2.2.2)⟩, ht570805, ht570806, ht570807, ht570808, ht570809, ht570810, ht570811, ht570812, ht570813, ht570814, ht570815, ht570816, ht570817, ht570818, ht570819, ht570820, ht570821, ht570822, ht570823, ht570824, ht570825, ht570826, ht570827, ht570828, hB570832⟩
      have hm570898 : (γ 9 6) ∈ P570779 := RS_m hT570892 ht570813 (by decide)
      obtain ⟨q570900, q570901, p570902, p570903, he570899, ht570919, ht570904, ht570905, ht570906, ht570907, r570908, r570909, r570910, r570911, r570912, r570913, r570914, r570915, r570916, r570917, r570918⟩ := show rk_9 γ el (γ 9 6) (F570840 (γ 9 6)) from RS_o hT570892 ht570813
      have bp570902 : gB p570902 0 1000000 := ⟨by omega, by omega⟩
      have bp570903 : gB p570903 0 1000000 := ⟨by omega, by omega⟩
      refine Gw_callV (As := []) (gV_ok D I) (ct_7646_Code_countRows l hl0 D I γ el P570779 F570840 (γ 9 6) hT570892 ht570813 (by have qa0 : Int32.toInt 0 = 0 := (by decide); omega)) dr_cX17_count__98 ⟨wr_10_225, wr_1_15, wr_10_228, by decide, rfl, (Nat.le_of_ble_eq_true rfl), (Nat.le_of_ble_eq_true rfl)⟩ wr_10_226 wr_10_227 hm570898 he570899 rfl (show 0 + 0 ≤ 0 by first | omega | decide) (show 0 + 0 ≤ 0 by first | omega | decide) (Nat.le_of_ble_eq_true rfl) (fun r570896 w570897 dc570893 ds570894 hp570895 => ?_) (fun _ _ _ _ _ z => z.elim)
      obtain ⟨o570920, rfl, rfl, hdc, hds⟩ := hp570895
      have bo570920 := gB_any o570920
      change G _ _ _ _ _ _ _ (.int o570920 :: _) _ _ _
      refine G_widen (cs' := 0) (sl' := 0) (by omega) (by omega) ?_
      refine G_goto 105 dr_cX17_count__101 (by decide +kernel) ?_
      have ac570921 : (fI (F570840 q570781) 9).toInt = p570790.toInt := by rw [he570843]; rfl
      have ac570922 : (fI (F570840 q570781) 10).toInt = p570791.toInt := by rw [he570843]; rfl
      have ac570923 : (fI (F570840 q570781) 32).toInt = p570802.toInt := by rw [he570843]; rfl
      exact G_iretA dr_cX17_count__105 rfl (Nat.le_of_ble_eq_true rfl) (Nat.le_of_ble_eq_true rfl) ⟨F570840, o570920, rfl, rfl, hT570892, hs570844, (Nat.le_of_ble_eq_true rfl), (Nat.le_of_ble_eq_true rfl), (by omega), (by omega), (by omega)⟩
  by_cases hs570924 : p570782 = 2
  · have ehs570924 : p570782.toInt = 2 := gj_eq hs570924 (show Int32.toInt 2 = 2 by decide)
    have bp570782' : gB p570782 2 2 := ⟨by omega, by omega⟩
    refine G_eqi (y := 2) hs570924 ?_
    refine G_tableIn 106 dr_cX17_count__6 (by decide) (by decide) (by first | rfl | decide) (by decide) ?_
    refine G_aload_n 0 dr_cX17_count__106 rfl ?_
    refine Gp_get 33 hm570786 he570843 dr_cX17_count__107 (gk_X17 D I) (Nat.le_of_ble_eq_true rfl) wr_7_107 rfl ?_
    have bp570803 : gB p570803 (-2147483648) 2147483647 := (gB_any p570803)
    have hT570925 : RS D I P570779 F570840 γ el := RS_set hT n570842 htq570781 (by decide) ⟨q570788, q570789, p570790, p570791, p570792, p570793, p570794, p570795, p570796, p570797, p570798, p570799, p570800, 0, p570802, p570803, p570804, he570843, ⟨bp570790, bp570791, (hB570831.2.2.1), (hB570831.2.2.2.1), (hB570831.2.2.2.2.1), (hB570831.2.2.2.2.2.1), (hB570831.2.2.2.2.2.2.1), bp570802, (hB570831.2.2.2.2.2.2.2.2)⟩, ht570805, ht570806, ht570807, ht570808, ht570809, ht570810, ht570811, ht570812, ht570813, ht570814, ht570815, ht570816, ht570817, ht570818, ht570819, ht570820, ht570821, ht570822, ht570823, ht570824, ht570825, ht570826, ht570827, ht570828, hB570832⟩
    have ac570926 : (fI (F570840 q570781) 9).toInt = p570790.toInt := by rw [he570843]; rfl
    have ac570927 : (fI (F570840 q570781) 10).toInt = p570791.toInt := by rw [he570843]; rfl
    have ac570928 : (fI (F570840 q570781) 32).toInt = p570802.toInt := by rw [he570843]; rfl
    exact G_iretA dr_cX17_count__110 rfl (Nat.le_of_ble_eq_true rfl) (Nat.le_of_ble_eq_true rfl) ⟨F570840, p570803, rfl, rfl, hT570925, hs570844, (Nat.le_of_ble_eq_true rfl), (Nat.le_of_ble_eq_true rfl), (by omega), (by omega), (by omega)⟩
  by_cases hs570929 : p570782 = 3
  · have ehs570929 : p570782.toInt = 3 := gj_eq hs570929 (show Int32.toInt 3 = 3 by decide)
    have bp570782' : gB p570782 3 3 := ⟨by omega, by omega⟩
    refine G_eqi (y := 3) hs570929 ?_
    refine G_tableIn 111 dr_cX17_count__6 (by decide) (by decide) (by first | rfl | decide) (by decide) ?_
    refine G_aload_n 0 dr_cX17_count__111 rfl ?_
    refine Gp_get 32 hm570786 he570843 dr_cX17_count__112 (gk_X17 D I) (Nat.le_of_ble_eq_true rfl) wr_7_106 rfl ?_
    have hT570930 : RS D I P570779 F570840 γ el := RS_set hT n570842 htq570781 (by decide) ⟨q570788, q570789, p570790, p570791, p570792, p570793, p570794, p570795, p570796, p570797, p570798, p570799, p570800, 0, p570802, p570803, p570804, he570843, ⟨bp570790, bp570791, (hB570831.2.2.1), (hB570831.2.2.2.1), (hB570831.2.2.2.2.1), (hB570831.2.2.2.2.2.1), (hB570831.2.2.2.2.2.2.1), bp570802, (hB570831.2.2.2.2.2.2.2.2)⟩, ht570805, ht570806, ht570807, ht570808, ht570809, ht570810, ht570811, ht570812, ht570813, ht570814, ht570815, ht570816, ht570817, ht570818, ht570819, ht570820, ht570821, ht570822, ht570823, ht570824, ht570825, ht570826, ht570827, ht570828, hB570832⟩
    have ac570931 : (fI (F570840 q570781) 9).toInt = p570790.toInt := by rw [he570843]; rfl
    have ac570932 : (fI (F570840 q570781) 10).toInt = p570791.toInt := by rw [he570843]; rfl
    have ac570933 : (fI (F570840 q570781) 32).toInt = p570802.toInt := by rw [he570843]; rfl
    exact G_iretA dr_cX17_count__115 rfl (Nat.le_of_ble_eq_true rfl) (Nat.le_of_ble_eq_true rfl) ⟨F570840, p570802, rfl, rfl, hT570930, hs570844, (Nat.le_of_ble_eq_true rfl), (Nat.le_of_ble_eq_true rfl), (by omega), (by omega), (by omega)⟩
  by_cases hs570934 : p570782 = 4
  · have ehs570934 : p570782.toInt = 4 := gj_eq hs570934 (show Int32.toInt 4 = 4 by decide)
    have bp570782' : gB p570782 4 4 := ⟨by omega, by omega⟩
    refine G_eqi (y := 4) hs570934 ?_
    refine G_tableIn 116 dr_cX17_count__6 (by decide) (by decide) (by first | rfl | decide) (by decide) ?_
    refine G_aload_n 0 dr_cX17_count__116 rfl ?_
    refine Gp_get 34 hm570786 he570843 dr_cX17_count__117 (gk_X17 D I) (Nat.le_of_ble_eq_true rfl) wr_7_108 rfl ?_
    have bp570804 : gB p570804 0 16777216 := (hB570831.2.2.2.2.2.2.2.2)
    have hT570935 : RS D I P570779 F570840 γ el := RS_set hT n570842 htq570781 (by decide) ⟨q570788, q570789, p570790, p570791, p570792, p570793, p570794, p570795, p570796, p570797, p570798, p570799, p570800, 0, p570802, p570803, p570804, he570843, ⟨bp570790, bp570791, (hB570831.2.2.1), (hB570831.2.2.2.1), (hB570831.2.2.2.2.1), (hB570831.2.2.2.2.2.1), (hB570831.2.2.2.2.2.2.1), bp570802, bp570804⟩, ht570805, ht570806, ht570807, ht570808, ht570809, ht570810, ht570811, ht570812, ht570813, ht570814, ht570815, ht570816, ht570817, ht570818, ht570819, ht570820, ht570821, ht570822, ht570823, ht570824, ht570825, ht570826, ht570827, ht570828, hB570832⟩
    have ac570936 : (fI (F570840 q570781) 9).toInt = p570790.toInt := by rw [he570843]; rfl
    have ac570937 : (fI (F570840 q570781) 10).toInt = p570791.toInt := by rw [he570843]; rfl
    have ac570938 : (fI (F570840 q570781) 32).toInt = p570802.toInt := by rw [he570843]; rfl
    exact G_iretA dr_cX17_count__120 rfl (Nat.le_of_ble_eq_true rfl) (Nat.le_of_ble_eq_true rfl) ⟨F570840, p570804, rfl, rfl, hT570935, hs570844, (Nat.le_of_ble_eq_true rfl), (Nat.le_of_ble_eq_true rfl), (by omega), (by omega), (by omega)⟩
  by_cases hs570939 : p570782 = 5
  · have ehs570939 : p570782.toInt = 5 := gj_eq hs570939 (show Int32.toInt 5 = 5 by decide)
    have bp570782' : gB p570782 5 5 := ⟨by omega, by omega⟩
    refine G_eqi (y := 5) hs570939 ?_
    refine G_tableIn 121 dr_cX17_count__6 (by decide) (by decide) (by first | rfl | decide) (by decide) ?_
    refine G_aload_n 0 dr_cX17_count__121 rfl ?_
    refine Gp_get 10 hm570786 he570843 dr_cX17_count__122 (gk_X17 D I) (Nat.le_of_ble_eq_true rfl) wr_7_84 rfl ?_
    refine G_if_eq 138 dr_cX17_count__125 (by decide +kernel) (fun hc570940 => ?_) (fun hc570940 => ?_)
    · have r570941 : p570791.toInt = 0 := gj_eq hc570940 (show Int32.toInt 0 = 0 by decide)
      have bp570791' : gB p570791 0 0 := gB_t0 r570941
      refine G_iconst 0 dr_cX17_count__138 (by decide +kernel) ?_
      have hT570942 : RS D I P570779 F570840 γ el := RS_set hT n570842 htq570781 (by decide) ⟨q570788, q570789, p570790, p570791, p570792, p570793, p570794, p570795, p570796, p570797, p570798, p570799, p570800, 0, p570802, p570803, p570804, he570843, ⟨bp570790, (gB_w bp570791' (by decide) (by decide)), (hB570831.2.2.1), (hB570831.2.2.2.1), (hB570831.2.2.2.2.1), (hB570831.2.2.2.2.2.1), (hB570831.2.2.2.2.2.2.1), bp570802, (hB570831.2.2.2.2.2.2.2.2)⟩, ht570805, ht570806, ht570807, ht570808, ht570809, ht570810, ht570811, ht570812, ht570813, ht570814, ht570815, ht570816, ht570817, ht570818, ht570819, ht570820, ht570821, ht570822, ht570823, ht570824, ht570825, ht570826, ht570827, ht570828, hB570832⟩
      have ac570943 : (fI (F570840 q570781) 9).toInt = p570790.toInt := by rw [he570843]; rfl
      have ac570944 : (fI (F570840 q570781) 10).toInt = p570791.toInt := by rw [he570843]; rfl
      have ac570945 : (fI (F570840 q570781) 32).toInt = p570802.toInt := by rw [he570843]; rfl
      exact G_iretA dr_cX17_count__139 rfl (Nat.le_of_ble_eq_true rfl) (Nat.le_of_ble_eq_true rfl) ⟨F570840, 0, rfl, rfl, hT570942, hs570844, (Nat.le_of_ble_eq_true rfl), (Nat.le_of_ble_eq_true rfl), (by have qa0 : Int32.toInt 0 = 0 := (by decide); omega), (by have qa0 : Int32.toInt 0 = 0 := (by decide); omega), (by have qa0 : Int32.toInt 0 = 0 := (by decide); omega)⟩
    · have r570946 : p570791.toInt ≠ 0 := gj_neq hc570940 (show Int32.toInt 0 = 0 by decide)
      have bp570791' : gB p570791 1 1 := gB_t1 bp570791 r570946
      refine G_aload_n 0 dr_cX17_count__128 rfl ?_
      refine Gp_get 7 hm570786 he570843 dr_cX17_count__129 (gk_X17 D I) (Nat.le_of_ble_eq_true rfl) wr_7_81 rfl ?_
      have hT570947 : RS D I P570779 F570840 γ el := RS_set hT n570842 htq570781 (by decide) ⟨q570788, q570789, p570790, p570791, p570792, p570793, p570794, p570795, p570796, p570797, p570798, p570799, p570800, 0, p570802, p570803, p570804, he570843, ⟨bp570790, (gB_w bp570791' (by decide) (by decide)), (hB570831.2.2.1), (hB570831.2.2.2.1), (hB570831.2.2.2.2.1), (hB570831.2.2.2.2.2.1), (hB570831.2.2.2.2.2.2.1), bp570802, (hB570831.2.2.2.2.2.2.2.2)⟩, ht570805, ht570806, ht570807, ht570808, ht570809, ht570810, ht570811, ht570812, ht570813, ht570814, ht570815, ht570816, ht570817, ht570818, ht570819, ht570820, ht570821, ht570822, ht570823, ht570824, ht570825, ht570826, ht570827, ht570828, hB570832⟩
      have hm570953 : (γ 9 7) ∈ P570779 := RS_m hT570947 ht570814 (by decide)
      obtain ⟨q570955, q570956, p570957, p570958, he570954, ht570974, ht570959, ht570960, ht570961, ht570962, r570963, r570964, r570965, r570966, r570967, r570968, r570969, r570970, r570971, r570972, r570973⟩ := show rk_9 γ el (γ 9 7) (F570840 (γ 9 7)) from RS_o hT570947 ht570814
      have bp570957 : gB p570957 0 1000000 := ⟨by omega, by omega⟩
      have bp570958 : gB p570958 0 1000000 := ⟨by omega, by omega⟩
      refine Gw_callV (As := []) (gV_ok D I) (ct_7646_Code_countRows l hl0 D I γ el P570779 F570840 (γ 9 7) hT570947 ht570814 (by have qa0 : Int32.toInt 0 = 0 := (by decide); omega)) dr_cX17_count__132 ⟨wr_10_225, wr_1_15, wr_10_228, by decide, rfl, (Nat.le_of_ble_eq_true rfl), (Nat.le_of_ble_eq_true rfl)⟩ wr_10_226 wr_10_227 hm570953 he570954 rfl (show 0 + 0 ≤ 0 by first | omega | decide) (show 0 + 0 ≤ 0 by first | omega | decide) (Nat.le_of_ble_eq_true rfl) (fun r570951 w570952 dc570948 ds570949 hp570950 => ?_) (fun _ _ _ _ _ z => z.elim)
      obtain ⟨o570975, rfl, rfl, hdc, hds⟩ := hp570950
      have bo570975 := gB_any o570975
      change G _ _ _ _ _ _ _ (.int o570975 :: _) _ _ _
      refine G_widen (cs' := 0) (sl' := 0) (by omega) (by omega) ?_
      refine G_goto 139 dr_cX17_count__135 (by decide +kernel) ?_
      have ac570976 : (fI (F570840 q570781) 9).toInt = p570790.toInt := by rw [he570843]; rfl
      have ac570977 : (fI (F570840 q570781) 10).toInt = p570791.toInt := by rw [he570843]; rfl
      have ac570978 : (fI (F570840 q570781) 32).toInt = p570802.toInt := by rw [he570843]; rfl
      exact G_iretA dr_cX17_count__139 rfl (Nat.le_of_ble_eq_true rfl) (Nat.le_of_ble_eq_true rfl) ⟨F570840, o570975, rfl, rfl, hT570947, hs570844, (Nat.le_of_ble_eq_true rfl), (Nat.le_of_ble_eq_true rfl), (by omega), (by omega), (by omega)⟩
  by_cases hs570979 : p570782 = 6
  · have ehs570979 : p570782.toInt = 6 := gj_eq hs570979 (show Int32.toInt 6 = 6 by decide)
    have bp570782' : gB p570782 6 6 := ⟨by omega, by omega⟩
    refine G_eqi (y := 6) hs570979 ?_
    refine G_tableIn 140 dr_cX17_count__6 (by decide) (by decide) (by first | rfl | decide) (by decide) ?_
    refine G_aload_n 0 dr_cX17_count__140 rfl ?_
    refine Gp_get 10 hm570786 he570843 dr_cX17_count__141 (gk_X17 D I) (Nat.le_of_ble_eq_true rfl) wr_7_84 rfl ?_
    refine G_if_eq 154 dr_cX17_count__144 (by decide +kernel) (fun hc570980 => ?_) (fun hc570980 => ?_)
    · have r570981 : p570791.toInt = 0 := gj_eq hc570980 (show Int32.toInt 0 = 0 by decide)
      have bp570791' : gB p570791 0 0 := gB_t0 r570981
      refine G_iconst 0 dr_cX17_count__154 (by decide +kernel) ?_
      have hT570982 : RS D I P570779 F570840 γ el := RS_set hT n570842 htq570781 (by decide) ⟨q570788, q570789, p570790, p570791, p570792, p570793, p570794, p570795, p570796, p570797, p570798, p570799, p570800, 0, p570802, p570803, p570804, he570843, ⟨bp570790, (gB_w bp570791' (by decide) (by decide)), (hB570831.2.2.1), (hB570831.2.2.2.1), (hB570831.2.2.2.2.1), (hB570831.2.2.2.2.2.1), (hB570831.2.2.2.2.2.2.1), bp570802, (hB570831.2.2.2.2.2.2.2.2)⟩, ht570805, ht570806, ht570807, ht570808, ht570809, ht570810, ht570811, ht570812, ht570813, ht570814, ht570815, ht570816, ht570817, ht570818, ht570819, ht570820, ht570821, ht570822, ht570823, ht570824, ht570825, ht570826, ht570827, ht570828, hB570832⟩
      have ac570983 : (fI (F570840 q570781) 9).toInt = p570790.toInt := by rw [he570843]; rfl
      have ac570984 : (fI (F570840 q570781) 10).toInt = p570791.toInt := by rw [he570843]; rfl
      have ac570985 : (fI (F570840 q570781) 32).toInt = p570802.toInt := by rw [he570843]; rfl
      exact G_iretA dr_cX17_count__155 rfl (Nat.le_of_ble_eq_true rfl) (Nat.le_of_ble_eq_true rfl) ⟨F570840, 0, rfl, rfl, hT570982, hs570844, (Nat.le_of_ble_eq_true rfl), (Nat.le_of_ble_eq_true rfl), (by have qa0 : Int32.toInt 0 = 0 := (by decide); omega), (by have qa0 : Int32.toInt 0 = 0 := (by decide); omega), (by have qa0 : Int32.toInt 0 = 0 := (by decide); omega)⟩
    · have r570986 : p570791.toInt ≠ 0 := gj_neq hc570980 (show Int32.toInt 0 = 0 by decide)
      have bp570791' : gB p570791 1 1 := gB_t1 bp570791 r570986
      refine G_aload_n 0 dr_cX17_count__147 rfl ?_
      have hT570987 : RS D I P570779 F570840 γ el := RS_set hT n570842 htq570781 (by decide) ⟨q570788, q570789, p570790, p570791, p570792, p570793, p570794, p570795, p570796, p570797, p570798, p570799, p570800, 0, p570802, p570803, p570804, he570843, ⟨bp570790, (gB_w bp570791' (by decide) (by decide)), (hB570831.2.2.1), (hB570831.2.2.2.1), (hB570831.2.2.2.2.1), (hB570831.2.2.2.2.2.1), (hB570831.2.2.2.2.2.2.1), bp570802, (hB570831.2.2.2.2.2.2.2.2)⟩, ht570805, ht570806, ht570807, ht570808, ht570809, ht570810, ht570811, ht570812, ht570813, ht570814, ht570815, ht570816, ht570817, ht570818, ht570819, ht570820, ht570821, ht570822, ht570823, ht570824, ht570825, ht570826, ht570827, ht570828, hB570832⟩
      have ac571244 : (fI (F570840 q570781) 9).toInt = p570790.toInt := by rw [he570843]; rfl
      have ac571245 : (fI (F570840 q570781) 10).toInt = p570791.toInt := by rw [he570843]; rfl
      have ac571246 : (fI (F570840 q570781) 32).toInt = p570802.toInt := by rw [he570843]; rfl
      refine Gw_callV (As := []) (gV_ok D I) (ct_570992_SpillForgeModel_colourCount l hl0 D I γ el P570779 F570840 q570781 hT570987 htq570781 (by have qa0 : Int32.toInt 0 = 0 := (by decide); omega)) dr_cX17_count__148 ⟨wr_11_71, wr_1_14, wr_11_74, by decide, rfl, (Nat.le_of_ble_eq_true rfl), (Nat.le_of_ble_eq_true rfl)⟩ wr_11_73 wr_p_112 hm570786 he570843 rfl (show 0 + 0 ≤ 0 by first | omega | decide) (show 0 + 0 ≤ 0 by first | omega | decide) (Nat.le_of_ble_eq_true rfl) (fun r571250 w571251 dc571247 ds571248 hp571249 => ?_) (fun _ _ _ _ _ z => z.elim)
      obtain ⟨F571254, o571252, rfl, rfl, hT571255, hs571256, hdc, hds, x571253⟩ := hp571249
      have hs571257 : rStr γ [] F570780 F571254 := rStr_tr hs570844 hs571256
      have kp571258 : F571254 q570781 = F570840 q570781 := x571253
      have he571259 : F571254 q570781 = .inr (22, [.ref (γ 9 0), .ref (γ 9 1), .ref (γ 9 2), .ref (γ 9 3), .ref (γ 9 4), .ref (γ 9 5), .ref (γ 9 6), .ref (γ 9 7), .ref (γ 9 8), .int p570790, .int p570791, .int p570792, .int p570793, .int p570794, .int p570795, .ref (γ 9 15), .ref (γ 9 16), .ref (γ 9 17), .ref (γ 9 18), .ref (γ 9 19), .ref (γ 9 20), .ref (γ 9 21), .ref (γ 9 22), .int p570796, .int p570797, .int p570798, .int p570799, .int p570800, .ref q570788, .ref (γ 9 29), .int 0, .ref (γ 9 31), .int p570802, .int p570803, .int p570804, .ref q570789]) := (x571253).trans he570843
      have bo571252 := gB_any o571252
      change G _ _ _ _ _ _ _ (.int o571252 :: _) _ _ _
      refine G_widen (cs' := 0) (sl' := 0) (by omega) (by omega) ?_
      refine G_goto 155 dr_cX17_count__151 (by decide +kernel) ?_
      have ac571260 : (fI (F571254 q570781) 9).toInt = p570790.toInt := by rw [he571259]; rfl
      have ac571261 : (fI (F571254 q570781) 10).toInt = p570791.toInt := by rw [he571259]; rfl
      have ac571262 : (fI (F571254 q570781) 32).toInt = p570802.toInt := by rw [he571259]; rfl
      exact G_iretA dr_cX17_count__155 rfl (Nat.le_of_ble_eq_true rfl) (Nat.le_of_ble_eq_true rfl) ⟨F571254, o571252, rfl, rfl, hT571255, hs571257, (Nat.le_of_ble_eq_true rfl), (Nat.le_of_ble_eq_true rfl), (by omega), (by omega), (by omega)⟩
  by_cases hs571263 : p570782 = 7
  · have ehs571263 : p570782.toInt = 7 := gj_eq hs571263 (show Int32.toInt 7 = 7 by decide)
    have bp570782' : gB p570782 7 7 := ⟨by omega, by omega⟩
    refine G_eqi (y := 7) hs571263 ?_
    refine G_tableIn 156 dr_cX17_count__6 (by decide) (by decide) (by first | rfl | decide) (by decide) ?_
    refine G_aload_n 0 dr_cX17_count__156 rfl ?_
    refine Gp_get 10 hm570786 he570843 dr_cX17_count__157 (gk_X17 D I) (Nat.le_of_ble_eq_true rfl) wr_7_84 rfl ?_
    refine G_if_eq 170 dr_cX17_count__160 (by decide +kernel) (fun hc571264 => ?_) (fun hc571264 => ?_)
    · have r571265 : p570791.toInt = 0 := gj_eq hc571264 (show Int32.toInt 0 = 0 by decide)
      have bp570791' : gB p570791 0 0 := gB_t0 r571265
      refine G_iconst 0 dr_cX17_count__170 (by decide +kernel) ?_
      have hT571266 : RS D I P570779 F570840 γ el := RS_set hT n570842 htq570781 (by decide) ⟨q570788, q570789, p570790, p570791, p570792, p570793, p570794, p570795, p570796, p570797, p570798, p570799, p570800, 0, p570802, p570803, p570804, he570843, ⟨bp570790, (gB_w bp570791' (by decide) (by decide)), (hB570831.2.2.1), (hB570831.2.2.2.1), (hB570831.2.2.2.2.1), (hB570831.2.2.2.2.2.1), (hB570831.2.2.2.2.2.2.1), bp570802, (hB570831.2.2.2.2.2.2.2.2)⟩, ht570805, ht570806, ht570807, ht570808, ht570809, ht570810, ht570811, ht570812, ht570813, ht570814, ht570815, ht570816, ht570817, ht570818, ht570819, ht570820, ht570821, ht570822, ht570823, ht570824, ht570825, ht570826, ht570827, ht570828, hB570832⟩
      have ac571267 : (fI (F570840 q570781) 9).toInt = p570790.toInt := by rw [he570843]; rfl
      have ac571268 : (fI (F570840 q570781) 10).toInt = p570791.toInt := by rw [he570843]; rfl
      have ac571269 : (fI (F570840 q570781) 32).toInt = p570802.toInt := by rw [he570843]; rfl
      exact G_iretA dr_cX17_count__171 rfl (Nat.le_of_ble_eq_true rfl) (Nat.le_of_ble_eq_true rfl) ⟨F570840, 0, rfl, rfl, hT571266, hs570844, (Nat.le_of_ble_eq_true rfl), (Nat.le_of_ble_eq_true rfl), (by have qa0 : Int32.toInt 0 = 0 := (by decide); omega), (by have qa0 : Int32.toInt 0 = 0 := (by decide); omega), (by have qa0 : Int32.toInt 0 = 0 := (by decide); omega)⟩
    · have r571270 : p570791.toInt ≠ 0 := gj_neq hc571264 (show Int32.toInt 0 = 0 by decide)
      have bp570791' : gB p570791 1 1 := gB_t1 bp570791 r571270
      refine G_aload_n 0 dr_cX17_count__163 rfl ?_
      refine Gp_get 11 hm570786 he570843 dr_cX17_count__164 (gk_X17 D I) (Nat.le_of_ble_eq_true rfl) wr_7_85 rfl ?_
      have bp570792 : gB p570792 0 100 := (hB570831.2.2.1)
      refine G_goto 171 dr_cX17_count__167 (by decide +kernel) ?_
      have hT571271 : RS D I P570779 F570840 γ el := RS_set hT n570842 htq570781 (by decide) ⟨q570788, q570789, p570790, p570791, p570792, p570793, p570794, p570795, p570796, p570797, p570798, p570799, p570800, 0, p570802, p570803, p570804, he570843, ⟨bp570790, (gB_w bp570791' (by decide) (by decide)), bp570792, (hB570831.2.2.2.1), (hB570831.2.2.2.2.1), (hB570831.2.2.2.2.2.1), (hB570831.2.2.2.2.2.2.1), bp570802, (hB570831.2.2.2.2.2.2.2.2)⟩, ht570805, ht570806, ht570807, ht570808, ht570809, ht570810, ht570811, ht570812, ht570813, ht570814, ht570815, ht570816, ht570817, ht570818, ht570819, ht570820, ht570821, ht570822, ht570823, ht570824, ht570825, ht570826, ht570827, ht570828, hB570832⟩
      have ac571272 : (fI (F570840 q570781) 9).toInt = p570790.toInt := by rw [he570843]; rfl
      have ac571273 : (fI (F570840 q570781) 10).toInt = p570791.toInt := by rw [he570843]; rfl
      have ac571274 : (fI (F570840 q570781) 32).toInt = p570802.toInt := by rw [he570843]; rfl
      exact G_iretA dr_cX17_count__171 rfl (Nat.le_of_ble_eq_true rfl) (Nat.le_of_ble_eq_true rfl) ⟨F570840, p570792, rfl, rfl, hT571271, hs570844, (Nat.le_of_ble_eq_true rfl), (Nat.le_of_ble_eq_true rfl), (by omega), (by omega), (by omega)⟩
  by_cases hs571275 : p570782 = 8
  · have ehs571275 : p570782.toInt = 8 := gj_eq hs571275 (show Int32.toInt 8 = 8 by decide)
    have bp570782' : gB p570782 8 8 := ⟨by omega, by omega⟩
    refine G_eqi (y := 8) hs571275 ?_
    refine G_tableIn 172 dr_cX17_count__6 (by decide) (by decide) (by first | rfl | decide) (by decide) ?_
    refine G_aload_n 0 dr_cX17_count__172 rfl ?_
    refine Gp_get 10 hm570786 he570843 dr_cX17_count__173 (gk_X17 D I) (Nat.le_of_ble_eq_true rfl) wr_7_84 rfl ?_
    refine G_if_eq 186 dr_cX17_count__176 (by decide +kernel) (fun hc571276 => ?_) (fun hc571276 => ?_)
    · have r571277 : p570791.toInt = 0 := gj_eq hc571276 (show Int32.toInt 0 = 0 by decide)
      have bp570791' : gB p570791 0 0 := gB_t0 r571277
      refine G_iconst 0 dr_cX17_count__186 (by decide +kernel) ?_
      have hT571278 : RS D I P570779 F570840 γ el := RS_set hT n570842 htq570781 (by decide) ⟨q570788, q570789, p570790, p570791, p570792, p570793, p570794, p570795, p570796, p570797, p570798, p570799, p570800, 0, p570802, p570803, p570804, he570843, ⟨bp570790, (gB_w bp570791' (by decide) (by decide)), (hB570831.2.2.1), (hB570831.2.2.2.1), (hB570831.2.2.2.2.1), (hB570831.2.2.2.2.2.1), (hB570831.2.2.2.2.2.2.1), bp570802, (hB570831.2.2.2.2.2.2.2.2)⟩, ht570805, ht570806, ht570807, ht570808, ht570809, ht570810, ht570811, ht570812, ht570813, ht570814, ht570815, ht570816, ht570817, ht570818, ht570819, ht570820, ht570821, ht570822, ht570823, ht570824, ht570825, ht570826, ht570827, ht570828, hB570832⟩
      have ac571279 : (fI (F570840 q570781) 9).toInt = p570790.toInt := by rw [he570843]; rfl
      have ac571280 : (fI (F570840 q570781) 10).toInt = p570791.toInt := by rw [he570843]; rfl
      have ac571281 : (fI (F570840 q570781) 32).toInt = p570802.toInt := by rw [he570843]; rfl
      exact G_iretA dr_cX17_count__187 rfl (Nat.le_of_ble_eq_true rfl) (Nat.le_of_ble_eq_true rfl) ⟨F570840, 0, rfl, rfl, hT571278, hs570844, (Nat.le_of_ble_eq_true rfl), (Nat.le_of_ble_eq_true rfl), (by have qa0 : Int32.toInt 0 = 0 := (by decide); omega), (by have qa0 : Int32.toInt 0 = 0 := (by decide); omega), (by have qa0 : Int32.toInt 0 = 0 := (by decide); omega)⟩
    · have r571282 : p570791.toInt ≠ 0 := gj_neq hc571276 (show Int32.toInt 0 = 0 by decide)
      have bp570791' : gB p570791 1 1 := gB_t1 bp570791 r571282
      refine G_aload_n 0 dr_cX17_count__179 rfl ?_
      refine Gp_get 12 hm570786 he570843 dr_cX17_count__180 (gk_X17 D I) (Nat.le_of_ble_eq_true rfl) wr_7_86 rfl ?_
      have bp570793 : gB p570793 (-2147483648) 2147483647 := (gB_any p570793)
      refine G_goto 187 dr_cX17_count__183 (by decide +kernel) ?_
      have hT571283 : RS D I P570779 F570840 γ el := RS_set hT n570842 htq570781 (by decide) ⟨q570788, q570789, p570790, p570791, p570792, p570793, p570794, p570795, p570796, p570797, p570798, p570799, p570800, 0, p570802, p570803, p570804, he570843, ⟨bp570790, (gB_w bp570791' (by decide) (by decide)), (hB570831.2.2.1), (hB570831.2.2.2.1), (hB570831.2.2.2.2.1), (hB570831.2.2.2.2.2.1), (hB570831.2.2.2.2.2.2.1), bp570802, (hB570831.2.2.2.2.2.2.2.2)⟩, ht570805, ht570806, ht570807, ht570808, ht570809, ht570810, ht570811, ht570812, ht570813, ht570814, ht570815, ht570816, ht570817, ht570818, ht570819, ht570820, ht570821, ht570822, ht570823, ht570824, ht570825, ht570826, ht570827, ht570828, hB570832⟩
      have ac571284 : (fI (F570840 q570781) 9).toInt = p570790.toInt := by rw [he570843]; rfl
      have ac571285 : (fI (F570840 q570781) 10).toInt = p570791.toInt := by rw [he570843]; rfl
      have ac571286 : (fI (F570840 q570781) 32).toInt = p570802.toInt := by rw [he570843]; rfl
      exact G_iretA dr_cX17_count__187 rfl (Nat.le_of_ble_eq_true rfl) (Nat.le_of_ble_eq_true rfl) ⟨F570840, p570793, rfl, rfl, hT571283, hs570844, (Nat.le_of_ble_eq_true rfl), (Nat.le_of_ble_eq_true rfl), (by omega), (by omega), (by omega)⟩
  by_cases hs571287 : p570782 = 9
  · have ehs571287 : p570782.toInt = 9 := gj_eq hs571287 (show Int32.toInt 9 = 9 by decide)
    have bp570782' : gB p570782 9 9 := ⟨by omega, by omega⟩
    refine G_eqi (y := 9) hs571287 ?_
    refine G_tableIn 188 dr_cX17_count__6 (by decide) (by decide) (by first | rfl | decide) (by decide) ?_
    refine G_aload_n 0 dr_cX17_count__188 rfl ?_
    refine Gp_get 10 hm570786 he570843 dr_cX17_count__189 (gk_X17 D I) (Nat.le_of_ble_eq_true rfl) wr_7_84 rfl ?_
    refine G_if_eq 202 dr_cX17_count__192 (by decide +kernel) (fun hc571288 => ?_) (fun hc571288 => ?_)
    · have r571289 : p570791.toInt = 0 := gj_eq hc571288 (show Int32.toInt 0 = 0 by decide)
      have bp570791' : gB p570791 0 0 := gB_t0 r571289
      refine G_iconst 0 dr_cX17_count__202 (by decide +kernel) ?_
      have hT571290 : RS D I P570779 F570840 γ el := RS_set hT n570842 htq570781 (by decide) ⟨q570788, q570789, p570790, p570791, p570792, p570793, p570794, p570795, p570796, p570797, p570798, p570799, p570800, 0, p570802, p570803, p570804, he570843, ⟨bp570790, (gB_w bp570791' (by decide) (by decide)), (hB570831.2.2.1), (hB570831.2.2.2.1), (hB570831.2.2.2.2.1), (hB570831.2.2.2.2.2.1), (hB570831.2.2.2.2.2.2.1), bp570802, (hB570831.2.2.2.2.2.2.2.2)⟩, ht570805, ht570806, ht570807, ht570808, ht570809, ht570810, ht570811, ht570812, ht570813, ht570814, ht570815, ht570816, ht570817, ht570818, ht570819, ht570820, ht570821, ht570822, ht570823, ht570824, ht570825, ht570826, ht570827, ht570828, hB570832⟩
      have ac571291 : (fI (F570840 q570781) 9).toInt = p570790.toInt := by rw [he570843]; rfl
      have ac571292 : (fI (F570840 q570781) 10).toInt = p570791.toInt := by rw [he570843]; rfl
      have ac571293 : (fI (F570840 q570781) 32).toInt = p570802.toInt := by rw [he570843]; rfl
      exact G_iretA dr_cX17_count__203 rfl (Nat.le_of_ble_eq_true rfl) (Nat.le_of_ble_eq_true rfl) ⟨F570840, 0, rfl, rfl, hT571290, hs570844, (Nat.le_of_ble_eq_true rfl), (Nat.le_of_ble_eq_true rfl), (by have qa0 : Int32.toInt 0 = 0 := (by decide); omega), (by have qa0 : Int32.toInt 0 = 0 := (by decide); omega), (by have qa0 : Int32.toInt 0 = 0 := (by decide); omega)⟩
    · have r571294 : p570791.toInt ≠ 0 := gj_neq hc571288 (show Int32.toInt 0 = 0 by decide)
      have bp570791' : gB p570791 1 1 := gB_t1 bp570791 r571294
      refine G_aload_n 0 dr_cX17_count__195 rfl ?_
      refine Gp_get 13 hm570786 he570843 dr_cX17_count__196 (gk_X17 D I) (Nat.le_of_ble_eq_true rfl) wr_7_87 rfl ?_
      have bp570794 : gB p570794 (-2147483648) 2147483647 := (gB_any p570794)
      refine G_goto 203 dr_cX17_count__199 (by decide +kernel) ?_
      have hT571295 : RS D I P570779 F570840 γ el := RS_set hT n570842 htq570781 (by decide) ⟨q570788, q570789, p570790, p570791, p570792, p570793, p570794, p570795, p570796, p570797, p570798, p570799, p570800, 0, p570802, p570803, p570804, he570843, ⟨bp570790, (gB_w bp570791' (by decide) (by decide)), (hB570831.2.2.1), (hB570831.2.2.2.1), (hB570831.2.2.2.2.1), (hB570831.2.2.2.2.2.1), (hB570831.2.2.2.2.2.2.1), bp570802, (hB570831.2.2.2.2.2.2.2.2)⟩, ht570805, ht570806, ht570807, ht570808, ht570809, ht570810, ht570811, ht570812, ht570813, ht570814, ht570815, ht570816, ht570817, ht570818, ht570819, ht570820, ht570821, ht570822, ht570823, ht570824, ht570825, ht570826, ht570827, ht570828, hB570832⟩
      have ac571296 : (fI (F570840 q570781) 9).toInt = p570790.toInt := by rw [he570843]; rfl
      have ac571297 : (fI (F570840 q570781) 10).toInt = p570791.toInt := by rw [he570843]; rfl
      have ac571298 : (fI (F570840 q570781) 32).toInt = p570802.toInt := by rw [he570843]; rfl
      exact G_iretA dr_cX17_count__203 rfl (Nat.le_of_ble_eq_true rfl) (Nat.le_of_ble_eq_true rfl) ⟨F570840, p570794, rfl, rfl, hT571295, hs570844, (Nat.le_of_ble_eq_true rfl), (Nat.le_of_ble_eq_true rfl), (by omega), (by omega), (by omega)⟩
  by_cases hs571299 : p570782 = 10
  · have ehs571299 : p570782.toInt = 10 := gj_eq hs571299 (show Int32.toInt 10 = 10 by decide)
    have bp570782' : gB p570782 10 10 := ⟨by omega, by omega⟩
    refine G_eqi (y := 10) hs571299 ?_
    refine G_tableIn 204 dr_cX17_count__6 (by decide) (by decide) (by first | rfl | decide) (by decide) ?_
    refine G_aload_n 0 dr_cX17_count__204 rfl ?_
    refine Gp_get 10 hm570786 he570843 dr_cX17_count__205 (gk_X17 D I) (Nat.le_of_ble_eq_true rfl) wr_7_84 rfl ?_
    refine G_if_eq 223 dr_cX17_count__208 (by decide +kernel) (fun hc571300 => ?_) (fun hc571300 => ?_)
    · have r571301 : p570791.toInt = 0 := gj_eq hc571300 (show Int32.toInt 0 = 0 by decide)
      have bp570791' : gB p570791 0 0 := gB_t0 r571301
      refine G_iconst 0 dr_cX17_count__223 (by decide +kernel) ?_
      have hT571302 : RS D I P570779 F570840 γ el := RS_set hT n570842 htq570781 (by decide) ⟨q570788, q570789, p570790, p570791, p570792, p570793, p570794, p570795, p570796, p570797, p570798, p570799, p570800, 0, p570802, p570803, p570804, he570843, ⟨bp570790, (gB_w bp570791' (by decide) (by decide)), (hB570831.2.2.1), (hB570831.2.2.2.1), (hB570831.2.2.2.2.1), (hB570831.2.2.2.2.2.1), (hB570831.2.2.2.2.2.2.1), bp570802, (hB570831.2.2.2.2.2.2.2.2)⟩, ht570805, ht570806, ht570807, ht570808, ht570809, ht570810, ht570811, ht570812, ht570813, ht570814, ht570815, ht570816, ht570817, ht570818, ht570819, ht570820, ht570821, ht570822, ht570823, ht570824, ht570825, ht570826, ht570827, ht570828, hB570832⟩
      have ac571303 : (fI (F570840 q570781) 9).toInt = p570790.toInt := by rw [he570843]; rfl
      have ac571304 : (fI (F570840 q570781) 10).toInt = p570791.toInt := by rw [he570843]; rfl
      have ac571305 : (fI (F570840 q570781) 32).toInt = p570802.toInt := by rw [he570843]; rfl
      exact G_iretA dr_cX17_count__224 rfl (Nat.le_of_ble_eq_true rfl) (Nat.le_of_ble_eq_true rfl) ⟨F570840, 0, rfl, rfl, hT571302, hs570844, (Nat.le_of_ble_eq_true rfl), (Nat.le_of_ble_eq_true rfl), (by have qa0 : Int32.toInt 0 = 0 := (by decide); omega), (by have qa0 : Int32.toInt 0 = 0 := (by decide); omega), (by have qa0 : Int32.toInt 0 = 0 := (by decide); omega)⟩
    · have r571306 : p570791.toInt ≠ 0 := gj_neq hc571300 (show Int32.toInt 0 = 0 by decide)
      have bp570791' : gB p570791 1 1 := gB_t1 bp570791 r571306
      refine G_aload_n 0 dr_cX17_count__211 rfl ?_
      refine Gp_get 7 hm570786 he570843 dr_cX17_count__212 (gk_X17 D I) (Nat.le_of_ble_eq_true rfl) wr_7_81 rfl ?_
      refine G_bipush 21 dr_cX17_count__215 (by decide +kernel) ?_
      have hT571307 : RS D I P570779 F570840 γ el := RS_set hT n570842 htq570781 (by decide) ⟨q570788, q570789, p570790, p570791, p570792, p570793, p570794, p570795, p570796, p570797, p570798, p570799, p570800, 0, p570802, p570803, p570804, he570843, ⟨bp570790, (gB_w bp570791' (by decide) (by decide)), (hB570831.2.2.1), (hB570831.2.2.2.1), (hB570831.2.2.2.2.1), (hB570831.2.2.2.2.2.1), (hB570831.2.2.2.2.2.2.1), bp570802, (hB570831.2.2.2.2.2.2.2.2)⟩, ht570805, ht570806, ht570807, ht570808, ht570809, ht570810, ht570811, ht570812, ht570813, ht570814, ht570815, ht570816, ht570817, ht570818, ht570819, ht570820, ht570821, ht570822, ht570823, ht570824, ht570825, ht570826, ht570827, ht570828, hB570832⟩
      have hm571313 : (γ 9 7) ∈ P570779 := RS_m hT571307 ht570814 (by decide)
      obtain ⟨q571315, q571316, p571317, p571318, he571314, ht571334, ht571319, ht571320, ht571321, ht571322, r571323, r571324, r571325, r571326, r571327, r571328, r571329, r571330, r571331, r571332, r571333⟩ := show rk_9 γ el (γ 9 7) (F570840 (γ 9 7)) from RS_o hT571307 ht570814
      have bp571317 : gB p571317 0 1000000 := ⟨by omega, by omega⟩
      have bp571318 : gB p571318 0 1000000 := ⟨by omega, by omega⟩
      refine Gw_callV (As := [.int 21]) (gV_ok D I) (ct_8600_Code_count l hl0 D I γ el P570779 F570840 (γ 9 7) 21 hT571307 ht570814 (by have qa0 : Int32.toInt 0 = 0 := (by decide); omega)) dr_cX17_count__217 ⟨wr_11_75, wr_1_15, wr_11_78, by decide, rfl, (Nat.le_of_ble_eq_true rfl), (Nat.le_of_ble_eq_true rfl)⟩ wr_11_76 wr_11_77 hm571313 he571314 rfl (show 0 + 0 ≤ 0 by first | omega | decide) (show 0 + 0 ≤ 0 by first | omega | decide) (Nat.le_of_ble_eq_true rfl) (fun r571311 w571312 dc571308 ds571309 hp571310 => ?_) (fun _ _ _ _ _ z => z.elim)
      obtain ⟨o571335, rfl, rfl, hdc, hds⟩ := hp571310
      have bo571335 := gB_any o571335
      change G _ _ _ _ _ _ _ (.int o571335 :: _) _ _ _
      refine G_widen (cs' := 0) (sl' := 0) (by omega) (by omega) ?_
      refine G_goto 224 dr_cX17_count__220 (by decide +kernel) ?_
      have ac571336 : (fI (F570840 q570781) 9).toInt = p570790.toInt := by rw [he570843]; rfl
      have ac571337 : (fI (F570840 q570781) 10).toInt = p570791.toInt := by rw [he570843]; rfl
      have ac571338 : (fI (F570840 q570781) 32).toInt = p570802.toInt := by rw [he570843]; rfl
      exact G_iretA dr_cX17_count__224 rfl (Nat.le_of_ble_eq_true rfl) (Nat.le_of_ble_eq_true rfl) ⟨F570840, o571335, rfl, rfl, hT571307, hs570844, (Nat.le_of_ble_eq_true rfl), (Nat.le_of_ble_eq_true rfl), (by omega), (by omega), (by omega)⟩
  by_cases hs571339 : p570782 = 11
  · have ehs571339 : p570782.toInt = 11 := gj_eq hs571339 (show Int32.toInt 11 = 11 by decide)
    have bp570782' : gB p570782 11 11 := ⟨by omega, by omega⟩
    refine G_eqi (y := 11) hs571339 ?_
    refine G_tableIn 225 dr_cX17_count__6 (by decide) (by decide) (by first | rfl | decide) (by decide) ?_
    refine G_aload_n 0 dr_cX17_count__225 rfl ?_
    refine Gp_get 10 hm570786 he570843 dr_cX17_count__226 (gk_X17 D I) (Nat.le_of_ble_eq_true rfl) wr_7_84 rfl ?_
    refine G_if_eq 244 dr_cX17_count__229 (by decide +kernel) (fun hc571340 => ?_) (fun hc571340 => ?_)
    · have r571341 : p570791.toInt = 0 := gj_eq hc571340 (show Int32.toInt 0 = 0 by decide)
      have bp570791' : gB p570791 0 0 := gB_t0 r571341
      refine G_iconst 0 dr_cX17_count__244 (by decide +kernel) ?_
      have hT571342 : RS D I P570779 F570840 γ el := RS_set hT n570842 htq570781 (by decide) ⟨q570788, q570789, p570790, p570791, p570792, p570793, p570794, p570795, p570796, p570797, p570798, p570799, p570800, 0, p570802, p570803, p570804, he570843, ⟨bp570790, (gB_w bp570791' (by decide) (by decide)), (hB570831.2.2.1), (hB570831.2.2.2.1), (hB570831.2.2.2.2.1), (hB570831.2.2.2.2.2.1), (hB570831.2.2.2.2.2.2.1), bp570802, (hB570831.2.2.2.2.2.2.2.2)⟩, ht570805, ht570806, ht570807, ht570808, ht570809, ht570810, ht570811, ht570812, ht570813, ht570814, ht570815, ht570816, ht570817, ht570818, ht570819, ht570820, ht570821, ht570822, ht570823, ht570824, ht570825, ht570826, ht570827, ht570828, hB570832⟩
      have ac571343 : (fI (F570840 q570781) 9).toInt = p570790.toInt := by rw [he570843]; rfl
      have ac571344 : (fI (F570840 q570781) 10).toInt = p570791.toInt := by rw [he570843]; rfl
      have ac571345 : (fI (F570840 q570781) 32).toInt = p570802.toInt := by rw [he570843]; rfl
      exact G_iretA dr_cX17_count__245 rfl (Nat.le_of_ble_eq_true rfl) (Nat.le_of_ble_eq_true rfl) ⟨F570840, 0, rfl, rfl, hT571342, hs570844, (Nat.le_of_ble_eq_true rfl), (Nat.le_of_ble_eq_true rfl), (by have qa0 : Int32.toInt 0 = 0 := (by decide); omega), (by have qa0 : Int32.toInt 0 = 0 := (by decide); omega), (by have qa0 : Int32.toInt 0 = 0 := (by decide); omega)⟩
    · have r571346 : p570791.toInt ≠ 0 := gj_neq hc571340 (show Int32.toInt 0 = 0 by decide)
      have bp570791' : gB p570791 1 1 := gB_t1 bp570791 r571346
      refine G_aload_n 0 dr_cX17_count__232 rfl ?_
      refine Gp_get 7 hm570786 he570843 dr_cX17_count__233 (gk_X17 D I) (Nat.le_of_ble_eq_true rfl) wr_7_81 rfl ?_
      refine G_bipush 23 dr_cX17_count__236 (by decide +kernel) ?_
      have hT571347 : RS D I P570779 F570840 γ el := RS_set hT n570842 htq570781 (by decide) ⟨q570788, q570789, p570790, p570791, p570792, p570793, p570794, p570795, p570796, p570797, p570798, p570799, p570800, 0, p570802, p570803, p570804, he570843, ⟨bp570790, (gB_w bp570791' (by decide) (by decide)), (hB570831.2.2.1), (hB570831.2.2.2.1), (hB570831.2.2.2.2.1), (hB570831.2.2.2.2.2.1), (hB570831.2.2.2.2.2.2.1), bp570802, (hB570831.2.2.2.2.2.2.2.2)⟩, ht570805, ht570806, ht570807, ht570808, ht570809, ht570810, ht570811, ht570812, ht570813, ht570814, ht570815, ht570816, ht570817, ht570818, ht570819, ht570820, ht570821, ht570822, ht570823, ht570824, ht570825, ht570826, ht570827, ht570828, hB570832⟩
      have hm571353 : (γ 9 7) ∈ P570779 := RS_m hT571347 ht570814 (by decide)
      obtain ⟨q571355, q571356, p571357, p571358, he571354, ht571374, ht571359, ht571360, ht571361, ht571362, r571363, r571364, r571365, r571366, r571367, r571368, r571369, r571370, r571371, r571372, r571373⟩ := show rk_9 γ el (γ 9 7) (F570840 (γ 9 7)) from RS_o hT571347 ht570814
      have bp571357 : gB p571357 0 1000000 := ⟨by omega, by omega⟩
      have bp571358 : gB p571358 0 1000000 := ⟨by omega, by omega⟩
      refine Gw_callV (As := [.int 23]) (gV_ok D I) (ct_8600_Code_count l hl0 D I γ el P570779 F570840 (γ 9 7) 23 hT571347 ht570814 (by have qa0 : Int32.toInt 0 = 0 := (by decide); omega)) dr_cX17_count__238 ⟨wr_11_75, wr_1_15, wr_11_78, by decide, rfl, (Nat.le_of_ble_eq_true rfl), (Nat.le_of_ble_eq_true rfl)⟩ wr_11_76 wr_11_77 hm571353 he571354 rfl (show 0 + 0 ≤ 0 by first | omega | decide) (show 0 + 0 ≤ 0 by first | omega | decide) (Nat.le_of_ble_eq_true rfl) (fun r571351 w571352 dc571348 ds571349 hp571350 => ?_) (fun _ _ _ _ _ z => z.elim)
      obtain ⟨o571375, rfl, rfl, hdc, hds⟩ := hp571350
      have bo571375 := gB_any o571375
      change G _ _ _ _ _ _ _ (.int o571375 :: _) _ _ _
      refine G_widen (cs' := 0) (sl' := 0) (by omega) (by omega) ?_
      refine G_goto 245 dr_cX17_count__241 (by decide +kernel) ?_
      have ac571376 : (fI (F570840 q570781) 9).toInt = p570790.toInt := by rw [he570843]; rfl
      have ac571377 : (fI (F570840 q570781) 10).toInt = p570791.toInt := by rw [he570843]; rfl
      have ac571378 : (fI (F570840 q570781) 32).toInt = p570802.toInt := by rw [he570843]; rfl
      exact G_iretA dr_cX17_count__245 rfl (Nat.le_of_ble_eq_true rfl) (Nat.le_of_ble_eq_true rfl) ⟨F570840, o571375, rfl, rfl, hT571347, hs570844, (Nat.le_of_ble_eq_true rfl), (Nat.le_of_ble_eq_true rfl), (by omega), (by omega), (by omega)⟩
  have ehs570845 := lv_neT hs570845 (show Int32.toInt 0 = 0 by decide)
  have ehs570884 := lv_neT hs570884 (show Int32.toInt 1 = 1 by decide)
  have ehs570924 := lv_neT hs570924 (show Int32.toInt 2 = 2 by decide)
  have ehs570929 := lv_neT hs570929 (show Int32.toInt 3 = 3 by decide)
  have ehs570934 := lv_neT hs570934 (show Int32.toInt 4 = 4 by decide)
  have ehs570939 := lv_neT hs570939 (show Int32.toInt 5 = 5 by decide)
  have ehs570979 := lv_neT hs570979 (show Int32.toInt 6 = 6 by decide)
  have ehs571263 := lv_neT hs571263 (show Int32.toInt 7 = 7 by decide)
  have ehs571275 := lv_neT hs571275 (show Int32.toInt 8 = 8 by decide)
  have ehs571287 := lv_neT hs571287 (show Int32.toInt 9 = 9 by decide)
  have ehs571299 := lv_neT hs571299 (show Int32.toInt 10 = 10 by decide)
  have ehs571339 := lv_neT hs571339 (show Int32.toInt 11 = 11 by decide)
  refine G_tableOut 246 dr_cX17_count__6 (by omega) (by decide) ?_
  refine G_aload_n 0 dr_cX17_count__246 rfl ?_
  refine G_iconst 1 dr_cX17_count__247 (by decide +kernel) ?_
  have hT571379 : RS D I P570779 F570840 γ el := RS_set hT n570842 htq570781 (by decide) ⟨q570788, q570789, p570790, p570791, p570792, p570793, p570794, p570795, p570796, p570797, p570798, p570799, p570800, 0, p570802, p570803, p570804, he570843, ⟨bp570790, bp570791, (hB570831.2.2.1), (hB570831.2.2.2.1), (hB570831.2.2.2.2.1), (hB570831.2.2.2.2.2.1), (hB570831.2.2.2.2.2.2.1), bp570802, (hB570831.2.2.2.2.2.2.2.2)⟩, ht570805, ht570806, ht570807, ht570808, ht570809, ht570810, ht570811, ht570812, ht570813, ht570814, ht570815, ht570816, ht570817, ht570818, ht570819, ht570820, ht570821, ht570822, ht570823, ht570824, ht570825, ht570826, ht570827, ht570828, hB570832⟩
  have ac571380 : (fI (F570840 q570781) 9).toInt = p570790.toInt := by rw [he570843]; rfl
  have ac571381 : (fI (F570840 q570781) 10).toInt = p570791.toInt := by rw [he570843]; rfl
  have ac571382 : (fI (F570840 q570781) 32).toInt = p570802.toInt := by rw [he570843]; rfl
  refine Gw_callV (As := [.int 1]) (gV_ok D I) (ct_563506_SpillForgeModel_no l hl0 D I γ el P570779 F570840 q570781 1 hT571379 htq570781) dr_cX17_count__248 ⟨wr_7_187, wr_1_14, wr_7_190, by decide, rfl, (Nat.le_of_ble_eq_true rfl), (Nat.le_of_ble_eq_true rfl)⟩ wr_7_189 wr_p_73 hm570786 he570843 rfl (show 0 + 0 ≤ 0 by first | omega | decide) (show 0 + 0 ≤ 0 by first | omega | decide) (Nat.le_of_ble_eq_true rfl) (fun r571386 w571387 dc571383 ds571384 hp571385 => ?_) (fun _ _ _ _ _ z => z.elim)
  obtain ⟨F571392, rfl, rfl, hT571393, hs571394, hdc, hds, x571388, x571389, x571390, x571391⟩ := hp571385
  have hs571395 : rStr γ [] F570780 F571392 := rStr_tr hs570844 hs571394
  rw [show Int32.toInt 1 = 1 from by decide] at x571391
  change G _ _ _ _ _ _ _ (.int 0 :: _) _ _ _
  refine G_widen (cs' := 0) (sl' := 0) (by omega) (by omega) ?_
  have hm571396 : q570781 ∈ P570779 := RS_m hT571393 htq570781 (by decide)
  refine rk10_e (show rk_10 γ (F571392 q570781) from RS_o hT571393 htq570781) (fun q571398 q571399 p571400 p571401 p571402 p571403 p571404 p571405 p571406 p571407 p571408 p571409 p571410 p571411 p571412 p571413 p571414 he571397 hB571441 ht571415 ht571416 ht571417 ht571418 ht571419 ht571420 ht571421 ht571422 ht571423 ht571424 ht571425 ht571426 ht571427 ht571428 ht571429 ht571430 ht571431 ht571432 ht571433 ht571434 ht571435 ht571436 ht571437 ht571438 hB571442 => ?_)
  have ac571443 : (fI (F571392 q570781) 9).toInt = p571400.toInt := by rw [he571397]; rfl
  have bp571400 : gB p571400 0 1 := (hB571441.1)
  have ac571444 : (fI (F571392 q570781) 10).toInt = p571401.toInt := by rw [he571397]; rfl
  have bp571401 : gB p571401 0 1 := (hB571441.2.1)
  have ac571445 : (fI (F571392 q570781) 32).toInt = p571412.toInt := by rw [he571397]; rfl
  have bp571412 : gB p571412 0 8192 := (hB571441.2.2.2.2.2.2.2.1)
  have ac571446 : (fI (F571392 q570781) 9).toInt = p571400.toInt := by rw [he571397]; rfl
  have ac571447 : (fI (F571392 q570781) 10).toInt = p571401.toInt := by rw [he571397]; rfl
  have ac571448 : (fI (F571392 q570781) 32).toInt = p571412.toInt := by rw [he571397]; rfl
  exact G_iretA dr_cX17_count__251 rfl (Nat.le_of_ble_eq_true rfl) (Nat.le_of_ble_eq_true rfl) ⟨F571392, 0, rfl, rfl, hT571393, hs571395, (Nat.le_of_ble_eq_true rfl), (Nat.le_of_ble_eq_true rfl), (by have qa0 : Int32.toInt 0 = 0 := (by decide); omega), (by have qa0 : Int32.toInt 0 = 0 := (by decide); omega), (by have qa0 : Int32.toInt 0 = 0 := (by decide); omega)⟩
