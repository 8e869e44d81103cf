theorem dr_cX17_colourCount_0 : decode cX17_colourCount 0 = .ok (.iconst 0, 1) := by decide +kernel
theorem dr_cX17_colourCount_1 : decode cX17_colourCount 1 = .ok (.istore_n 1, 1) := by decide +kernel
theorem dr_cX17_colourCount_2 : decode cX17_colourCount 2 = .ok (.aload_n 0, 1) := by decide +kernel
theorem dr_cX17_colourCount_3 : decode cX17_colourCount 3 = .ok (.aload_n 0, 1) := by decide +kernel
theorem dr_cX17_colourCount_4 : decode cX17_colourCount 4 = .ok (.getfield 365, 3) := by decide +kernel
theorem dr_cX17_colourCount_7 : decode cX17_colourCount 7 = .ok (.iconst 0, 1) := by decide +kernel
theorem dr_cX17_colourCount_8 : decode cX17_colourCount 8 = .ok (.invokevirtual 243, 3) := by decide +kernel
theorem dr_cX17_colourCount_11 : decode cX17_colourCount 11 = .ok (.iconst 0, 1) := by decide +kernel
theorem dr_cX17_colourCount_12 : decode cX17_colourCount 12 = .ok (.istore_n 2, 1) := by decide +kernel
theorem dr_cX17_colourCount_13 : decode cX17_colourCount 13 = .ok (.iload_n 2, 1) := by decide +kernel
theorem dr_cX17_colourCount_14 : decode cX17_colourCount 14 = .ok (.sipush 2000, 3) := by decide +kernel
theorem dr_cX17_colourCount_17 : decode cX17_colourCount 17 = .ok (.if_icmp .ge 26, 3) := by decide +kernel
theorem dr_cX17_colourCount_43 : decode cX17_colourCount 43 = .ok (.iload_n 1, 1) := by decide +kernel
theorem dr_cX17_colourCount_44 : decode cX17_colourCount 44 = .ok (.ireturn, 1) := by decide +kernel
theorem dr_cX17_colourCount_20 : decode cX17_colourCount 20 = .ok (.iload_n 1, 1) := by decide +kernel
theorem dr_cX17_colourCount_21 : decode cX17_colourCount 21 = .ok (.aload_n 0, 1) := by decide +kernel
theorem dr_cX17_colourCount_22 : decode cX17_colourCount 22 = .ok (.getfield 131, 3) := by decide +kernel
theorem dr_cX17_colourCount_25 : decode cX17_colourCount 25 = .ok (.iload_n 2, 1) := by decide +kernel
theorem dr_cX17_colourCount_26 : decode cX17_colourCount 26 = .ok (.baload, 1) := by decide +kernel
theorem dr_cX17_colourCount_27 : decode cX17_colourCount 27 = .ok (.ifCond .eq 7, 3) := by decide +kernel
theorem dr_cX17_colourCount_34 : decode cX17_colourCount 34 = .ok (.iconst 0, 1) := by decide +kernel
theorem dr_cX17_colourCount_35 : decode cX17_colourCount 35 = .ok (.iadd, 1) := by decide +kernel
theorem dr_cX17_colourCount_36 : decode cX17_colourCount 36 = .ok (.istore_n 1, 1) := by decide +kernel
theorem dr_cX17_colourCount_37 : decode cX17_colourCount 37 = .ok (.iinc 2 1, 3) := by decide +kernel
theorem dr_cX17_colourCount_40 : decode cX17_colourCount 40 = .ok (.goto (-27), 3) := by decide +kernel
theorem dr_cX17_colourCount_30 : decode cX17_colourCount 30 = .ok (.iconst 1, 1) := by decide +kernel
theorem dr_cX17_colourCount_31 : decode cX17_colourCount 31 = .ok (.goto 4, 3) := by decide +kernel
theorem dr_cX17_count__0 : decode cX17_count_ 0 = .ok (.aload_n 0, 1) := by decide +kernel
theorem dr_cX17_count__1 : decode cX17_count_ 1 = .ok (.iconst 0, 1) := by decide +kernel
theorem dr_cX17_count__2 : decode cX17_count_ 2 = .ok (.putfield 380, 3) := by decide +kernel
theorem dr_cX17_count__5 : decode cX17_count_ 5 = .ok (.iload_n 1, 1) := by decide +kernel
theorem dr_cX17_count__6 : decode cX17_count_ 6 = .ok (.tableswitch 240 0 11 #[62, 81, 100, 105, 110, 115, 134, 150, 166, 182, 198, 219], 62) := by decide +kernel
theorem dr_cX17_count__68 : decode cX17_count_ 68 = .ok (.aload_n 0, 1) := by decide +kernel
theorem dr_cX17_count__69 : decode cX17_count_ 69 = .ok (.getfield 414, 3) := by decide +kernel
theorem dr_cX17_count__72 : decode cX17_count_ 72 = .ok (.ifCond .eq 13, 3) := by decide +kernel
theorem dr_cX17_count__85 : decode cX17_count_ 85 = .ok (.iconst 0, 1) := by decide +kernel
theorem dr_cX17_count__86 : decode cX17_count_ 86 = .ok (.ireturn, 1) := by decide +kernel
theorem dr_cX17_count__75 : decode cX17_count_ 75 = .ok (.aload_n 0, 1) := by decide +kernel
theorem dr_cX17_count__76 : decode cX17_count_ 76 = .ok (.getfield 361, 3) := by decide +kernel
theorem dr_cX17_count__79 : decode cX17_count_ 79 = .ok (.invokevirtual 96, 3) := by decide +kernel
theorem dr_cX17_count__82 : decode cX17_count_ 82 = .ok (.goto 4, 3) := by decide +kernel
theorem dr_cX17_count__87 : decode cX17_count_ 87 = .ok (.aload_n 0, 1) := by decide +kernel
theorem dr_cX17_count__88 : decode cX17_count_ 88 = .ok (.getfield 414, 3) := by decide +kernel
theorem dr_cX17_count__91 : decode cX17_count_ 91 = .ok (.ifCond .eq 13, 3) := by decide +kernel
theorem dr_cX17_count__104 : decode cX17_count_ 104 = .ok (.iconst 0, 1) := by decide +kernel
theorem dr_cX17_count__105 : decode cX17_count_ 105 = .ok (.ireturn, 1) := by decide +kernel
theorem dr_cX17_count__94 : decode cX17_count_ 94 = .ok (.aload_n 0, 1) := by decide +kernel
theorem dr_cX17_count__95 : decode cX17_count_ 95 = .ok (.getfield 361, 3) := by decide +kernel
theorem dr_cX17_count__98 : decode cX17_count_ 98 = .ok (.invokevirtual 234, 3) := by decide +kernel
theorem dr_cX17_count__101 : decode cX17_count_ 101 = .ok (.goto 4, 3) := by decide +kernel
theorem dr_cX17_count__106 : decode cX17_count_ 106 = .ok (.aload_n 0, 1) := by decide +kernel
theorem dr_cX17_count__107 : decode cX17_count_ 107 = .ok (.getfield 392, 3) := by decide +kernel
theorem wr_7_107 : (Jvm.Cond.fieldLink "SpillForgeModel" (392 : Nat) "SpillForgeModel" "reason" "I") ∈ gw := gw_7 107 rfl rfl
theorem dr_cX17_count__110 : decode cX17_count_ 110 = .ok (.ireturn, 1) := by decide +kernel
theorem dr_cX17_count__111 : decode cX17_count_ 111 = .ok (.aload_n 0, 1) := by decide +kernel
theorem dr_cX17_count__112 : decode cX17_count_ 112 = .ok (.getfield 383, 3) := by decide +kernel
theorem dr_cX17_count__115 : decode cX17_count_ 115 = .ok (.ireturn, 1) := by decide +kernel
theorem dr_cX17_count__116 : decode cX17_count_ 116 = .ok (.aload_n 0, 1) := by decide +kernel
theorem dr_cX17_count__117 : decode cX17_count_ 117 = .ok (.getfield 426, 3) := by decide +kernel
theorem wr_7_108 : (Jvm.Cond.fieldLink "SpillForgeModel" (426 : Nat) "SpillForgeModel" "results" "I") ∈ gw := gw_7 108 rfl rfl
theorem dr_cX17_count__120 : decode cX17_count_ 120 = .ok (.ireturn, 1) := by decide +kernel
theorem dr_cX17_count__121 : decode cX17_count_ 121 = .ok (.aload_n 0, 1) := by decide +kernel
theorem dr_cX17_count__122 : decode cX17_count_ 122 = .ok (.getfield 416, 3) := by decide +kernel
theorem dr_cX17_count__125 : decode cX17_count_ 125 = .ok (.ifCond .eq 13, 3) := by decide +kernel
theorem dr_cX17_count__138 : decode cX17_count_ 138 = .ok (.iconst 0, 1) := by decide +kernel
theorem dr_cX17_count__139 : decode cX17_count_ 139 = .ok (.ireturn, 1) := by decide +kernel
theorem dr_cX17_count__128 : decode cX17_count_ 128 = .ok (.aload_n 0, 1) := by decide +kernel
theorem dr_cX17_count__129 : decode cX17_count_ 129 = .ok (.getfield 365, 3) := by decide +kernel
theorem dr_cX17_count__132 : decode cX17_count_ 132 = .ok (.invokevirtual 234, 3) := by decide +kernel
theorem dr_cX17_count__135 : decode cX17_count_ 135 = .ok (.goto 4, 3) := by decide +kernel
theorem dr_cX17_count__140 : decode cX17_count_ 140 = .ok (.aload_n 0, 1) := by decide +kernel
theorem dr_cX17_count__141 : decode cX17_count_ 141 = .ok (.getfield 416, 3) := by decide +kernel
theorem dr_cX17_count__144 : decode cX17_count_ 144 = .ok (.ifCond .eq 10, 3) := by decide +kernel
theorem dr_cX17_count__154 : decode cX17_count_ 154 = .ok (.iconst 0, 1) := by decide +kernel
theorem dr_cX17_count__155 : decode cX17_count_ 155 = .ok (.ireturn, 1) := by decide +kernel
theorem dr_cX17_count__147 : decode cX17_count_ 147 = .ok (.aload_n 0, 1) := by decide +kernel
theorem dr_cX17_count__148 : decode cX17_count_ 148 = .ok (.invokevirtual 429, 3) := by decide +kernel
theorem wr_11_75 : (Jvm.Cond.methodLink "SpillForgeModel" (429 : Nat) ({ cls := "SpillForgeModel", name := "colourCount", desc := "()I" } : Jvm.MethodName)) ∈ gw := gw_11 75 rfl rfl
theorem wr_11_78 : (Jvm.Cond.code ({ cls := "SpillForgeModel", name := "colourCount", desc := "()I" } : Jvm.MethodName) prog_14_method_44_code (3 : Nat) (Option.some Jvm.ClassFile.FieldType.int)) ∈ gw := gw_11 78 rfl rfl
theorem wr_11_77 : (Jvm.Cond.instanceMethod ({ cls := "SpillForgeModel", name := "colourCount", desc := "()I" } : Jvm.MethodName)) ∈ gw := gw_11 77 rfl rfl
theorem wr_p_112 : Cond.selects "SpillForgeModel" ⟨"SpillForgeModel", "colourCount", "()I"⟩ ⟨"SpillForgeModel", "colourCount", "()I"⟩ ∈ gw := gw_p _ 112 rfl rfl rfl
theorem dr_cX17_count__151 : decode cX17_count_ 151 = .ok (.goto 4, 3) := by decide +kernel
theorem dr_cX17_count__156 : decode cX17_count_ 156 = .ok (.aload_n 0, 1) := by decide +kernel
theorem dr_cX17_count__157 : decode cX17_count_ 157 = .ok (.getfield 416, 3) := by decide +kernel
theorem dr_cX17_count__160 : decode cX17_count_ 160 = .ok (.ifCond .eq 10, 3) := by decide +kernel
theorem dr_cX17_count__170 : decode cX17_count_ 170 = .ok (.iconst 0, 1) := by decide +kernel
theorem dr_cX17_count__171 : decode cX17_count_ 171 = .ok (.ireturn, 1) := by decide +kernel
theorem dr_cX17_count__163 : decode cX17_count_ 163 = .ok (.aload_n 0, 1) := by decide +kernel
theorem dr_cX17_count__164 : decode cX17_count_ 164 = .ok (.getfield 224, 3) := by decide +kernel
theorem dr_cX17_count__167 : decode cX17_count_ 167 = .ok (.goto 4, 3) := by decide +kernel
theorem dr_cX17_count__172 : decode cX17_count_ 172 = .ok (.aload_n 0, 1) := by decide +kernel
theorem dr_cX17_count__173 : decode cX17_count_ 173 = .ok (.getfield 416, 3) := by decide +kernel
theorem dr_cX17_count__176 : decode cX17_count_ 176 = .ok (.ifCond .eq 10, 3) := by decide +kernel
theorem dr_cX17_count__186 : decode cX17_count_ 186 = .ok (.iconst 0, 1) := by decide +kernel
theorem dr_cX17_count__187 : decode cX17_count_ 187 = .ok (.ireturn, 1) := by decide +kernel
theorem dr_cX17_count__179 : decode cX17_count_ 179 = .ok (.aload_n 0, 1) := by decide +kernel
theorem dr_cX17_count__180 : decode cX17_count_ 180 = .ok (.getfield 237, 3) := by decide +kernel
theorem dr_cX17_count__183 : decode cX17_count_ 183 = .ok (.goto 4, 3) := by decide +kernel
theorem dr_cX17_count__188 : decode cX17_count_ 188 = .ok (.aload_n 0, 1) := by decide +kernel
theorem dr_cX17_count__189 : decode cX17_count_ 189 = .ok (.getfield 416, 3) := by decide +kernel
theorem dr_cX17_count__192 : decode cX17_count_ 192 = .ok (.ifCond .eq 10, 3) := by decide +kernel
theorem dr_cX17_count__202 : decode cX17_count_ 202 = .ok (.iconst 0, 1) := by decide +kernel
theorem dr_cX17_count__203 : decode cX17_count_ 203 = .ok (.ireturn, 1) := by decide +kernel
theorem dr_cX17_count__195 : decode cX17_count_ 195 = .ok (.aload_n 0, 1) := by decide +kernel
theorem dr_cX17_count__196 : decode cX17_count_ 196 = .ok (.getfield 195, 3) := by decide +kernel
theorem dr_cX17_count__199 : decode cX17_count_ 199 = .ok (.goto 4, 3) := by decide +kernel
theorem dr_cX17_count__204 : decode cX17_count_ 204 = .ok (.aload_n 0, 1) := by decide +kernel
theorem dr_cX17_count__205 : decode cX17_count_ 205 = .ok (.getfield 416, 3) := by decide +kernel
theorem dr_cX17_count__208 : decode cX17_count_ 208 = .ok (.ifCond .eq 15, 3) := by decide +kernel
theorem dr_cX17_count__223 : decode cX17_count_ 223 = .ok (.iconst 0, 1) := by decide +kernel
theorem dr_cX17_count__224 : decode cX17_count_ 224 = .ok (.ireturn, 1) := by decide +kernel
theorem dr_cX17_count__211 : decode cX17_count_ 211 = .ok (.aload_n 0, 1) := by decide +kernel
theorem dr_cX17_count__212 : decode cX17_count_ 212 = .ok (.getfield 365, 3) := by decide +kernel
theorem dr_cX17_count__215 : decode cX17_count_ 215 = .ok (.bipush 21, 2) := by decide +kernel
theorem dr_cX17_count__217 : decode cX17_count_ 217 = .ok (.invokevirtual 432, 3) := by decide +kernel
theorem wr_11_79 : (Jvm.Cond.methodLink "SpillForgeModel" (432 : Nat) ({ cls := "SpillForgeModel$Code", name := "count", desc := "(I)I" } : Jvm.MethodName)) ∈ gw := gw_11 79 rfl rfl
theorem wr_11_82 : (Jvm.Cond.code ({ cls := "SpillForgeModel$Code", name := "count", desc := "(I)I" } : Jvm.MethodName) prog_16_method_8_code (5 : Nat) (Option.some Jvm.ClassFile.FieldType.int)) ∈ gw := gw_11 82 rfl rfl
theorem wr_11_80 : (Jvm.Cond.instanceMethod ({ cls := "SpillForgeModel$Code", name := "count", desc := "(I)I" } : Jvm.MethodName)) ∈ gw := gw_11 80 rfl rfl
theorem wr_11_81 : (Jvm.Cond.selects "SpillForgeModel$Code" ({ cls := "SpillForgeModel$Code", name := "count", desc := "(I)I" } : Jvm.MethodName) ({ cls := "SpillForgeModel$Code", name := "count", desc := "(I)I" } : Jvm.MethodName)) ∈ gw := gw_11 81 rfl rfl
theorem dr_cX17_count__220 : decode cX17_count_ 220 = .ok (.goto 4, 3) := by decide +kernel
theorem dr_cX17_count__225 : decode cX17_count_ 225 = .ok (.aload_n 0, 1) := by decide +kernel
theorem dr_cX17_count__226 : decode cX17_count_ 226 = .ok (.getfield 416, 3) := by decide +kernel
theorem dr_cX17_count__229 : decode cX17_count_ 229 = .ok (.ifCond .eq 15, 3) := by decide +kernel
theorem dr_cX17_count__244 : decode cX17_count_ 244 = .ok (.iconst 0, 1) := by decide +kernel
theorem dr_cX17_count__245 : decode cX17_count_ 245 = .ok (.ireturn, 1) := by decide +kernel
theorem dr_cX17_count__232 : decode cX17_count_ 232 = .ok (.aload_n 0, 1) := by decide +kernel
theorem dr_cX17_count__233 : decode cX17_count_ 233 = .ok (.getfield 365, 3) := by decide +kernel
theorem dr_cX17_count__236 : decode cX17_count_ 236 = .ok (.bipush 23, 2) := by decide +kernel
theorem dr_cX17_count__238 : decode cX17_count_ 238 = .ok (.invokevirtual 432, 3) := by decide +kernel
theorem dr_cX17_count__241 : decode cX17_count_ 241 = .ok (.goto 4, 3) := by decide +kernel
theorem dr_cX17_count__246 : decode cX17_count_ 246 = .ok (.aload_n 0, 1) := by decide +kernel
theorem dr_cX17_count__247 : decode cX17_count_ 247 = .ok (.iconst 1, 1) := by decide +kernel
theorem dr_cX17_count__248 : decode cX17_count_ 248 = .ok (.invokevirtual 385, 3) := by decide +kernel
theorem dr_cX17_count__251 : decode cX17_count_ 251 = .ok (.ireturn, 1) := by decide +kernel
abbrev ky_634622_SpillForgeModel_colourCount : gKey := (cX17_colourCount, 3, "SpillForgeModel", (some FieldType.int), [], "colourCount", fun _ _ => True)
def pt_634622_SpillForgeModel_colourCount (D : va_G) (I : FieldType → ClassId) (γ el : Nat → Nat → Nat) (P634618 : List Nat) (F634619 : Nat → va_E) (q634620 : Nat) : Option Value → va_W → Nat → Nat → Prop := fun r w dc ds => ∃ (F634873 : Nat → va_E) (o634872 : Int32), r = some (.int o634872) ∧ w = va_pl P634618 F634873 ∧ RS D I P634618 F634873 γ el ∧ rStr γ [] F634619 F634873 ∧ dc ≤ 0 ∧ ds ≤ 0 ∧ (F634873 q634620 = F634619 q634620)
set_option maxRecDepth 100000 in
set_option maxHeartbeats 4000000 in
theorem ct_634622_SpillForgeModel_colourCount (l : Launch) (hl0 : l.stackTraces = false) (D : va_G) (I : FieldType → ClassId) (γ el : Nat → Nat → Nat) (P634618 : List Nat) (F634619 : Nat → va_E) (q634620 : Nat) (hT : RS D I P634618 F634619 γ el) (htq634620 : rKd γ q634620 10) (x634621 : 0 < γ 6 1) : CtA (gV D I) l yX17_colourCount cX17_colourCount 3 (some FieldType.int) 6 141 0 0 [.ref q634620] (va_pl P634618 F634619) (pt_634622_SpillForgeModel_colourCount D I γ el P634618 F634619 q634620) gNA := by
  refine CtA_of hl0 (by decide) (Nat.le_of_ble_eq_true rfl) ?_
  have hm634623 : q634620 ∈ P634618 := RS_m hT htq634620 (by decide)
  refine rk10_e (show rk_10 γ (F634619 q634620) from RS_o hT htq634620) (fun q634625 q634626 p634627 p634628 p634629 p634630 p634631 p634632 p634633 p634634 p634635 p634636 p634637 p634638 p634639 p634640 p634641 he634624 hB634668 ht634642 ht634643 ht634644 ht634645 ht634646 ht634647 ht634648 ht634649 ht634650 ht634651 ht634652 ht634653 ht634654 ht634655 ht634656 ht634657 ht634658 ht634659 ht634660 ht634661 ht634662 ht634663 ht634664 ht634665 hB634669 => ?_)
  have fq634670 : γ 6 (γ 1 (γ 9 6)) = γ 6 0 := by rw [show γ 1 (γ 9 6) = 0 from ht634663]
  have fq634671 : γ 6 (γ 1 (γ 9 7)) = γ 6 1 := by rw [show γ 1 (γ 9 7) = 1 from ht634664]
  have fq634672 : γ 6 (γ 1 (γ 9 8)) = γ 6 2 := by rw [show γ 1 (γ 9 8) = 2 from ht634665]
  have r634673 : p634641.toInt ≤ γ 12 q634626 := by have z := hB634669; unfold rM2 at z; exact z.2.2
  refine G_iconst 0 dr_cX17_colourCount_0 (by decide +kernel) ?_
  refine G_istore_n (L' := [(1, .int 0), (0, .ref q634620)]) dr_cX17_colourCount_1 (Nat.le_of_ble_eq_true rfl) rfl ?_
  refine G_aload_n 1 dr_cX17_colourCount_2 rfl ?_
  refine G_aload_n 1 dr_cX17_colourCount_3 rfl ?_
  refine Gp_get 7 hm634623 he634624 dr_cX17_colourCount_4 (gk_X17 D I) (Nat.le_of_ble_eq_true rfl) wr_7_81 rfl ?_
  refine G_iconst 0 dr_cX17_colourCount_7 (by decide +kernel) ?_
  refine Gw_callV (As := [.ref (γ 9 7), .int 0]) (gV_ok D I) (ct_269178_SpillForgeModel_graph l hl0 D I γ el P634618 F634619 q634620 (γ 9 7) 0 hT htq634620 ht634651 (gB_w (gBl (show Int32.toInt 0 = 0 by decide)) (by decide) (by decide)) (by have qa0 : Int32.toInt 0 = 0 := (by decide); omega)) dr_cX17_colourCount_8 ⟨wr_10_233, wr_1_14, wr_10_236, by decide, rfl, (Nat.le_of_ble_eq_true rfl), (Nat.le_of_ble_eq_true rfl)⟩ wr_10_235 wr_p_99 hm634623 he634624 rfl (show 0 + 0 ≤ 0 by first | omega | decide) (show 0 + 0 ≤ 0 by first | omega | decide) (Nat.le_of_ble_eq_true rfl) (fun r634677 w634678 dc634674 ds634675 hp634676 => ?_) (fun _ _ _ _ _ z => z.elim)
  obtain ⟨F634681, rfl, rfl, hT634682, hs634683, hdc, hds, x634679, x634680⟩ := hp634676
  have hs634684 : rStr γ [] F634619 F634681 := rStr_tr (rStr_rf (γ := γ) (W := []) (F := F634619)) hs634683
  have kp634685 : F634681 q634620 = F634619 q634620 := x634680
  have he634686 : F634681 q634620 = .inr (22, [.ref (γ 9 0), .ref (γ 9 1), .ref (γ 9 2), .ref (γ 9 3), .ref (γ 9 4), .ref (γ 9 5), .ref (γ 9 6), .ref (γ 9 7), .ref (γ 9 8), .int p634627, .int p634628, .int p634629, .int p634630, .int p634631, .int p634632, .ref (γ 9 15), .ref (γ 9 16), .ref (γ 9 17), .ref (γ 9 18), .ref (γ 9 19), .ref (γ 9 20), .ref (γ 9 21), .ref (γ 9 22), .int p634633, .int p634634, .int p634635, .int p634636, .int p634637, .ref q634625, .ref (γ 9 29), .int p634638, .ref (γ 9 31), .int p634639, .int p634640, .int p634641, .ref q634626]) := (x634680).trans he634624
  rw [show Int32.toInt 0 = 0 from by decide] at x634679
  change G _ _ _ _ _ _ _ _ _ _ _
  refine G_widen (cs' := 0) (sl' := 0) (by omega) (by omega) ?_
  refine G_iconst 0 dr_cX17_colourCount_11 (by decide +kernel) ?_
  refine G_istore_n (L' := [(2, .int 0), (1, .int 0), (0, .ref q634620)]) dr_cX17_colourCount_12 (Nat.le_of_ble_eq_true rfl) rfl ?_
  have hlp13_634856 : ∀ (n13_634856 : Nat) (g634855 : Int32) (g634856 : Int32), gB g634855 0 2000 → ((2001 : Int) - g634855.toInt).toNat < n13_634856 → G (gV D I) l (gRm 6 141 0 0) (gMA (gV D I) (pt_634622_SpillForgeModel_colourCount D I γ el P634618 F634619 q634620) gNA 0 0) ky_634622_SpillForgeModel_colourCount 13 [(2, .int g634855), (1, .int g634856), (0, .ref q634620)] [] (va_pl P634618 F634681) 0 0 := by
    intro n13_634856
    induction n13_634856 with
    | zero => intro g634855 g634856 bg634855 hm13_634856; exact absurd hm13_634856 (Nat.not_lt_zero _)
    | succ n13_634856 ih13_634856 =>
      intro g634855 g634856 bg634855 hm13_634856
      have bg634856 := gB_any g634856
      refine G_iload_n 0 dr_cX17_colourCount_13 rfl ?_
      refine G_sipush 2000 dr_cX17_colourCount_14 (by decide +kernel) ?_
      refine G_icmp_ge 43 dr_cX17_colourCount_17 (by decide +kernel) (fun hc634858 => ?_) (fun hc634858 => ?_)
      · have r634859 : 2000 ≤ g634855.toInt := gj_leL hc634858 (show Int32.toInt 2000 = 2000 by decide)
        have bg634855' : gB g634855 2000 2000 := ⟨by omega, by omega⟩
        refine G_iload_n 1 dr_cX17_colourCount_43 rfl ?_
        exact G_iretA dr_cX17_colourCount_44 rfl (Nat.le_of_ble_eq_true rfl) (Nat.le_of_ble_eq_true rfl) ⟨F634681, g634856, rfl, rfl, hT634682, hs634684, (Nat.le_of_ble_eq_true rfl), (Nat.le_of_ble_eq_true rfl), kp634685⟩
      · have r634860 : g634855.toInt < 2000 := gj_nleL hc634858 (show Int32.toInt 2000 = 2000 by decide)
        have bg634855' : gB g634855 0 1999 := ⟨by omega, by omega⟩
        refine G_iload_n 1 dr_cX17_colourCount_20 rfl ?_
        refine G_aload_n 2 dr_cX17_colourCount_21 rfl ?_
        refine Gp_get 3 hm634623 he634686 dr_cX17_colourCount_22 (gk_X17 D I) (Nat.le_of_ble_eq_true rfl) wr_7_77 rfl ?_
        refine G_iload_n 0 dr_cX17_colourCount_25 rfl ?_
        have hm634861 : (γ 9 3) ∈ P634618 := RS_m hT634682 ht634647 (by decide)
        obtain ⟨f634863, he634862, bf634863⟩ := show rk_14 I (F634681 (γ 9 3)) from RS_o hT634682 ht634647
        refine Gp_zald 3 hm634861 he634862 dr_cX17_colourCount_26 rfl (gB_in bg634855' (by decide) (by decide)) (G_nam fun z634864 hz634864 => ?_)
        have bz634864 : gB z634864 0 1 := by rw [hz634864]; exact bf634863 _
        refine G_if_eq 34 dr_cX17_colourCount_27 (by decide +kernel) (fun hc634865 => ?_) (fun hc634865 => ?_)
        · have r634866 : z634864.toInt = 0 := gj_eq hc634865 (show Int32.toInt 0 = 0 by decide)
          have bz634864' : gB z634864 0 0 := gB_t0 r634866
          refine G_iconst 0 dr_cX17_colourCount_34 (by decide +kernel) ?_
          refine G_iadd dr_cX17_colourCount_35 (G_nam fun z634867 hz634867 => ?_)
          have ez634867 : z634867.toInt = g634856.toInt + 0 := by rw [gI_add hz634867 bg634856 (gBl (show Int32.toInt 0 = 0 by decide)) (by decide) (by decide), show Int32.toInt 0 = 0 from by decide]
          have bz634867 : gB z634867 (-2147483648) 2147483647 := gB_add (gI_add hz634867 bg634856 (gBl (show Int32.toInt 0 = 0 by decide)) (by decide) (by decide)) bg634856 (gBl (show Int32.toInt 0 = 0 by decide)) (by decide) (by decide)
          refine G_istore_n (L' := [(1, .int z634867), (2, .int g634855), (0, .ref q634620)]) dr_cX17_colourCount_36 (Nat.le_of_ble_eq_true rfl) rfl ?_
          obtain ⟨z634868, hz634868⟩ : ∃ z : Int32, z = g634855 + Int32.ofInt 1 := ⟨_, rfl⟩
          have ez634868 : z634868.toInt = g634855.toInt + 1 := gI_inc hz634868 (by decide) bg634855' (by decide) (by decide)
          have bz634868 : gB z634868 1 2000 := ⟨by omega, by omega⟩
          refine G_iinc (L' := [(2, .int z634868), (1, .int z634867), (0, .ref q634620)]) z634868 1 dr_cX17_colourCount_37 rfl hz634868.symm (Nat.le_of_ble_eq_true rfl) rfl ?_
          refine G_goto 13 dr_cX17_colourCount_40 (by decide +kernel) ?_
          exact ih13_634856 z634868 z634867 (gB_w bz634868 (by decide) (by decide)) (mz_up ez634868 (Int.le_trans bg634855'.2 (by decide)) hm13_634856)
        · have r634869 : z634864.toInt ≠ 0 := gj_neq hc634865 (show Int32.toInt 0 = 0 by decide)
          have bz634864' : gB z634864 1 1 := gB_t1 bz634864 r634869
          refine G_iconst 1 dr_cX17_colourCount_30 (by decide +kernel) ?_
          refine G_goto 35 dr_cX17_colourCount_31 (by decide +kernel) ?_
          refine G_iadd dr_cX17_colourCount_35 (G_nam fun z634870 hz634870 => ?_)
          have bz634870 : gB z634870 (-2147483648) 2147483647 := gB_any z634870
          refine G_istore_n (L' := [(1, .int z634870), (2, .int g634855), (0, .ref q634620)]) dr_cX17_colourCount_36 (Nat.le_of_ble_eq_true rfl) rfl ?_
          obtain ⟨z634871, hz634871⟩ : ∃ z : Int32, z = g634855 + Int32.ofInt 1 := ⟨_, rfl⟩
          have ez634871 : z634871.toInt = g634855.toInt + 1 := gI_inc hz634871 (by decide) bg634855' (by decide) (by decide)
          have bz634871 : gB z634871 1 2000 := ⟨by omega, by omega⟩
          refine G_iinc (L' := [(2, .int z634871), (1, .int z634870), (0, .ref q634620)]) z634871 1 dr_cX17_colourCount_37 rfl hz634871.symm (Nat.le_of_ble_eq_true rfl) rfl ?_
          refine G_goto 13 dr_cX17_colourCount_40 (by decide +kernel) ?_
          exact ih13_634856 z634871 z634870 (gB_w bz634871 (by decide) (by decide)) (mz_up ez634871 (Int.le_trans bg634855'.2 (by decide)) hm13_634856)
  exact hlp13_634856 (((2001 : Int) - 0).toNat + 1) 0 0 (gB_w (gBl (show Int32.toInt 0 = 0 by decide)) (by decide) (by decide)) (Nat.lt_succ_self _)
abbrev ky_634415_SpillForgeModel_count : gKey := (cX17_count_, 2, "SpillForgeModel", (some FieldType.int), [], "count", fun _ _ => True)
def pt_634415_SpillForgeModel_count (D : va_G) (I : FieldType → ClassId) (γ el : Nat → Nat → Nat) (P634409 : List Nat) (F634410 : Nat → va_E) (q634411 : Nat) (p634412 : Int32) : Option Value → va_W → Nat → Nat → Prop := fun r w dc ds => ∃ (F635080 : Nat → va_E) (o635079 : Int32), r = some (.int o635079) ∧ w = va_pl P634409 F635080 ∧ RS D I P634409 F635080 γ el ∧ rStr γ [] F634410 F635080 ∧ dc ≤ 0 ∧ ds ≤ 0 ∧ (fI (F635080 q634411) 9).toInt = (fI (F634410 q634411) 9).toInt ∧ (fI (F635080 q634411) 10).toInt = (fI (F634410 q634411) 10).toInt ∧ (fI (F635080 q634411) 32).toInt = (fI (F634410 q634411) 32).toInt
set_option maxRecDepth 100000 in
set_option maxHeartbeats 4000000 in
theorem ct_634415_SpillForgeModel_count (l : Launch) (hl0 : l.stackTraces = false) (D : va_G) (I : FieldType → ClassId) (γ el : Nat → Nat → Nat) (P634409 : List Nat) (F634410 : Nat → va_E) (q634411 : Nat) (p634412 : Int32) (hT : RS D I P634409 F634410 γ el) (htq634411 : rKd γ q634411 10) (x634413 : ((fI (F634410 q634411) 9).toInt = 0 ∨ 0 < γ 6 0)) (x634414 : ((fI (F634410 q634411) 10).toInt = 0 ∨ 0 < γ 6 1)) : CtA (gV D I) l yX17_count_ cX17_count_ 2 (some FieldType.int) 7 163 0 0 [.ref q634411, .int p634412] (va_pl P634409 F634410) (pt_634415_SpillForgeModel_count D I γ el P634409 F634410 q634411 p634412) gNA := by
  refine CtA_of hl0 (by decide) (Nat.le_of_ble_eq_true rfl) ?_
  have bp634412 := gB_any p634412
  have hm634416 : q634411 ∈ P634409 := RS_m hT htq634411 (by decide)
  refine rk10_e (show rk_10 γ (F634410 q634411) from RS_o hT htq634411) (fun q634418 q634419 p634420 p634421 p634422 p634423 p634424 p634425 p634426 p634427 p634428 p634429 p634430 p634431 p634432 p634433 p634434 he634417 hB634461 ht634435 ht634436 ht634437 ht634438 ht634439 ht634440 ht634441 ht634442 ht634443 ht634444 ht634445 ht634446 ht634447 ht634448 ht634449 ht634450 ht634451 ht634452 ht634453 ht634454 ht634455 ht634456 ht634457 ht634458 hB634462 => ?_)
  have ac634463 : (fI (F634410 q634411) 9).toInt = p634420.toInt := by rw [he634417]; rfl
  have bp634420 : gB p634420 0 1 := (hB634461.1)
  have ac634464 : (fI (F634410 q634411) 10).toInt = p634421.toInt := by rw [he634417]; rfl
  have bp634421 : gB p634421 0 1 := (hB634461.2.1)
  have ac634465 : (fI (F634410 q634411) 32).toInt = p634432.toInt := by rw [he634417]; rfl
  have bp634432 : gB p634432 0 8192 := (hB634461.2.2.2.2.2.2.2.1)
  have fq634466 : γ 6 (γ 1 (γ 9 6)) = γ 6 0 := by rw [show γ 1 (γ 9 6) = 0 from ht634456]
  have fq634467 : γ 6 (γ 1 (γ 9 7)) = γ 6 1 := by rw [show γ 1 (γ 9 7) = 1 from ht634457]
  have fq634468 : γ 6 (γ 1 (γ 9 8)) = γ 6 2 := by rw [show γ 1 (γ 9 8) = 2 from ht634458]
  have r634469 : p634434.toInt ≤ γ 12 q634419 := by have z := hB634462; unfold rM2 at z; exact z.2.2
  refine G_aload_n 0 dr_cX17_count__0 rfl ?_
  refine G_iconst 0 dr_cX17_count__1 (by decide +kernel) ?_
  refine Gp_put 30 hm634416 he634417 dr_cX17_count__2 (gk_X17 D I) (Nat.le_of_ble_eq_true rfl) wr_7_104 rfl rfl rfl (Nat.le_of_ble_eq_true rfl) (fun F634470 e634471 n634472 => ?_)
  have he634473 : F634470 q634411 = .inr (22, [.ref (γ 9 0), .ref (γ 9 1), .ref (γ 9 2), .ref (γ 9 3), .ref (γ 9 4), .ref (γ 9 5), .ref (γ 9 6), .ref (γ 9 7), .ref (γ 9 8), .int p634420, .int p634421, .int p634422, .int p634423, .int p634424, .int p634425, .ref (γ 9 15), .ref (γ 9 16), .ref (γ 9 17), .ref (γ 9 18), .ref (γ 9 19), .ref (γ 9 20), .ref (γ 9 21), .ref (γ 9 22), .int p634426, .int p634427, .int p634428, .int p634429, .int p634430, .ref q634418, .ref (γ 9 29), .int 0, .ref (γ 9 31), .int p634432, .int p634433, .int p634434, .ref q634419]) := e634471
  have hs634474 : rStr γ [] F634410 F634470 := rStr_put (rStr_rf (γ := γ) (W := []) (F := F634410)) n634472 htq634411 (by decide)
  refine G_iload_n 1 dr_cX17_count__5 rfl ?_
  by_cases hs634475 : p634412 = 0
  · have ehs634475 : p634412.toInt = 0 := gj_eq hs634475 (show Int32.toInt 0 = 0 by decide)
    have bp634412' : gB p634412 0 0 := ⟨by omega, by omega⟩
    refine G_eqi (y := 0) hs634475 ?_
    refine G_tableIn 68 dr_cX17_count__6 (by decide) (by decide) (by first | rfl | decide) (by decide) ?_
    refine G_aload_n 0 dr_cX17_count__68 rfl ?_
    refine Gp_get 9 hm634416 he634473 dr_cX17_count__69 (gk_X17 D I) (Nat.le_of_ble_eq_true rfl) wr_7_83 rfl ?_
    refine G_if_eq 85 dr_cX17_count__72 (by decide +kernel) (fun hc634476 => ?_) (fun hc634476 => ?_)
    · have r634477 : p634420.toInt = 0 := gj_eq hc634476 (show Int32.toInt 0 = 0 by decide)
      have bp634420' : gB p634420 0 0 := gB_t0 r634477
      refine G_iconst 0 dr_cX17_count__85 (by decide +kernel) ?_
      have hT634478 : RS D I P634409 F634470 γ el := RS_set hT n634472 htq634411 (by decide) ⟨q634418, q634419, p634420, p634421, p634422, p634423, p634424, p634425, p634426, p634427, p634428, p634429, p634430, 0, p634432, p634433, p634434, he634473, ⟨(gB_w bp634420' (by decide) (by decide)), bp634421, (hB634461.2.2.1), (hB634461.2.2.2.1), (hB634461.2.2.2.2.1), (hB634461.2.2.2.2.2.1), (hB634461.2.2.2.2.2.2.1), bp634432, (hB634461.2.2.2.2.2.2.2.2)⟩, ht634435, ht634436, ht634437, ht634438, ht634439, ht634440, ht634441, ht634442, ht634443, ht634444, ht634445, ht634446, ht634447, ht634448, ht634449, ht634450, ht634451, ht634452, ht634453, ht634454, ht634455, ht634456, ht634457, ht634458, hB634462⟩
      have ac634479 : (fI (F634470 q634411) 9).toInt = p634420.toInt := by rw [he634473]; rfl
      have ac634480 : (fI (F634470 q634411) 10).toInt = p634421.toInt := by rw [he634473]; rfl
      have ac634481 : (fI (F634470 q634411) 32).toInt = p634432.toInt := by rw [he634473]; rfl
      exact G_iretA dr_cX17_count__86 rfl (Nat.le_of_ble_eq_true rfl) (Nat.le_of_ble_eq_true rfl) ⟨F634470, 0, rfl, rfl, hT634478, hs634474, (Nat.le_of_ble_eq_true rfl), (Nat.le_of_ble_eq_true rfl), (by have qa0 : Int32.toInt 0 = 0 := (by decide); omega), (by have qa0 : Int32.toInt 0 = 0 := (by decide); omega), (by have qa0 : Int32.toInt 0 = 0 := (by decide); omega)⟩
    · have r634482 : p634420.toInt ≠ 0 := gj_neq hc634476 (show Int32.toInt 0 = 0 by decide)
      have bp634420' : gB p634420 1 1 := gB_t1 bp634420 r634482
      refine G_aload_n 0 dr_cX17_count__75 rfl ?_
      refine Gp_get 6 hm634416 he634473 dr_cX17_count__76 (gk_X17 D I) (Nat.le_of_ble_eq_true rfl) wr_7_80 rfl ?_
      have hT634483 : RS D I P634409 F634470 γ el := RS_set hT n634472 htq634411 (by decide) ⟨q634418, q634419, p634420, p634421, p634422, p634423, p634424, p634425, p634426, p634427, p634428, p634429, p634430, 0, p634432, p634433, p634434, he634473, ⟨(gB_w bp634420' (by decide) (by decide)), bp634421, (hB634461.2.2.1), (hB634461.2.2.2.1), (hB634461.2.2.2.2.1), (hB634461.2.2.2.2.2.1), (hB634461.2.2.2.2.2.2.1), bp634432, (hB634461.2.2.2.2.2.2.2.2)⟩, ht634435, ht634436, ht634437, ht634438, ht634439, ht634440, ht634441, ht634442, ht634443, ht634444, ht634445, ht634446, ht634447, ht634448, ht634449, ht634450, ht634451, ht634452, ht634453, ht634454, ht634455, ht634456, ht634457, ht634458, hB634462⟩
      have hm634484 : (γ 9 6) ∈ P634409 := RS_m hT634483 ht634443 (by decide)
      obtain ⟨q634486, q634487, p634488, p634489, he634485, ht634505, ht634490, ht634491, ht634492, ht634493, r634494, r634495, r634496, r634497, r634498, r634499, r634500, r634501, r634502, r634503, r634504⟩ := show rk_9 γ el (γ 9 6) (F634470 (γ 9 6)) from RS_o hT634483 ht634443
      have bp634488 : gB p634488 0 1000000 := ⟨by omega, by omega⟩
      have bp634489 : gB p634489 0 1000000 := ⟨by omega, by omega⟩
      refine Gw_callV (As := []) (gV_ok D I) (cp_12451_Code_size l hl0 D I P634409 F634470 (γ 9 6) q634486 q634487 p634488 p634489 hm634484 he634485) dr_cX17_count__79 ⟨wr_10_160, wr_1_15, wr_9_131, by decide, rfl, (Nat.le_of_ble_eq_true rfl), (Nat.le_of_ble_eq_true rfl)⟩ wr_9_129 wr_9_130 hm634484 he634485 rfl (show 0 + 0 ≤ 0 by first | omega | decide) (show 0 + 0 ≤ 0 by first | omega | decide) (Nat.le_of_ble_eq_true rfl) (fun r634509 w634510 dc634506 ds634507 hp634508 => ?_) (fun _ _ _ _ _ z => z.elim)
      obtain ⟨rfl, rfl, hdc, hds⟩ := hp634508
      change G _ _ _ _ _ _ _ (.int p634489 :: _) _ _ _
      refine G_widen (cs' := 0) (sl' := 0) (by omega) (by omega) ?_
      refine G_goto 86 dr_cX17_count__82 (by decide +kernel) ?_
      have ac634511 : (fI (F634470 q634411) 9).toInt = p634420.toInt := by rw [he634473]; rfl
      have ac634512 : (fI (F634470 q634411) 10).toInt = p634421.toInt := by rw [he634473]; rfl
      have ac634513 : (fI (F634470 q634411) 32).toInt = p634432.toInt := by rw [he634473]; rfl
      exact G_iretA dr_cX17_count__86 rfl (Nat.le_of_ble_eq_true rfl) (Nat.le_of_ble_eq_true rfl) ⟨F634470, p634489, rfl, rfl, hT634483, hs634474, (Nat.le_of_ble_eq_true rfl), (Nat.le_of_ble_eq_true rfl), (by omega), (by omega), (by omega)⟩
  by_cases hs634514 : p634412 = 1
  · have ehs634514 : p634412.toInt = 1 := gj_eq hs634514 (show Int32.toInt 1 = 1 by decide)
    have bp634412' : gB p634412 1 1 := ⟨by omega, by omega⟩
    refine G_eqi (y := 1) hs634514 ?_
    refine G_tableIn 87 dr_cX17_count__6 (by decide) (by decide) (by first | rfl | decide) (by decide) ?_
    refine G_aload_n 0 dr_cX17_count__87 rfl ?_
    refine Gp_get 9 hm634416 he634473 dr_cX17_count__88 (gk_X17 D I) (Nat.le_of_ble_eq_true rfl) wr_7_83 rfl ?_
    refine G_if_eq 104 dr_cX17_count__91 (by decide +kernel) (fun hc634515 => ?_) (fun hc634515 => ?_)
    · have r634516 : p634420.toInt = 0 := gj_eq hc634515 (show Int32.toInt 0 = 0 by decide)
      have bp634420' : gB p634420 0 0 := gB_t0 r634516
      refine G_iconst 0 dr_cX17_count__104 (by decide +kernel) ?_
      have hT634517 : RS D I P634409 F634470 γ el := RS_set hT n634472 htq634411 (by decide) ⟨q634418, q634419, p634420, p634421, p634422, p634423, p634424, p634425, p634426, p634427, p634428, p634429, p634430, 0, p634432, p634433, p634434, he634473, ⟨(gB_w bp634420' (by decide) (by decide)), bp634421, (hB634461.2.2.1), (hB634461.2.2.2.1), (hB634461.2.2.2.2.1), (hB634461.2.2.2.2.2.1), (hB634461.2.2.2.2.2.2.1), bp634432, (hB634461.2.2.2.2.2.2.2.2)⟩, ht634435, ht634436, ht634437, ht634438, ht634439, ht634440, ht634441, ht634442, ht634443, ht634444, ht634445, ht634446, ht634447, ht634448, ht634449, ht634450, ht634451, ht634452, ht634453, ht634454, ht634455, ht634456, ht634457, ht634458, hB634462⟩
      have ac634518 : (fI (F634470 q634411) 9).toInt = p634420.toInt := by rw [he634473]; rfl
      have ac634519 : (fI (F634470 q634411) 10).toInt = p634421.toInt := by rw [he634473]; rfl
      have ac634520 : (fI (F634470 q634411) 32).toInt = p634432.toInt := by rw [he634473]; rfl
      exact G_iretA dr_cX17_count__105 rfl (Nat.le_of_ble_eq_true rfl) (Nat.le_of_ble_eq_true rfl) ⟨F634470, 0, rfl, rfl, hT634517, hs634474, (Nat.le_of_ble_eq_true rfl), (Nat.le_of_ble_eq_true rfl), (by have qa0 : Int32.toInt 0 = 0 := (by decide); omega), (by have qa0 : Int32.toInt 0 = 0 := (by decide); omega), (by have qa0 : Int32.toInt 0 = 0 := (by decide); omega)⟩
    · have r634521 : p634420.toInt ≠ 0 := gj_neq hc634515 (show Int32.toInt 0 = 0 by decide)
      have bp634420' : gB p634420 1 1 := gB_t1 bp634420 r634521
      refine G_aload_n 0 dr_cX17_count__94 rfl ?_
      refine Gp_get 6 hm634416 he634473 dr_cX17_count__95 (gk_X17 D I) (Nat.le_of_ble_eq_true rfl) wr_7_80 rfl ?_
      have hT634522 : RS D I P634409 F634470 γ el := RS_set hT n634472 htq634411 (by decide) ⟨q634418, q634419, p634420, p634421, p634422, p634423, p634424, p634425, p634426, p634427, p634428, p634429, p634430, 0, p634432, p634433, p634434, he634473, ⟨(gB_w bp634420' (by decide) (by decide)), bp634421, (hB634461.2.2.1), (hB634461.2.2.2.1), (hB634461.2.2.2.2.1), (hB634461.2.2.2.2.2.1), (hB634461.2.2.2.2.2.2.1), bp634432, (hB634461.2.2.2.2.2.2.2.2)⟩, ht634435, ht634436, ht634437, ht634438, ht634439, ht634440, ht634441, ht634442, ht634443, ht634444, ht634445, ht634446, ht634447, ht634448, ht634449, ht634450, ht634451, ht634452, ht634453, ht634454, ht634455, ht634456, ht634457, ht634458, hB634462⟩
      have hm634528 : (γ 9 6) ∈ P634409 := RS_m hT634522 ht634443 (by decide)
      obtain ⟨q634530, q634531, p634532, p634533, he634529, ht634549, ht634534, ht634535, ht634536, ht634537, r634538, r634539, r634540, r634541, r634542, r634543, r634544, r634545, r634546, r634547, r634548⟩ := show rk_9 γ el (γ 9 6) (F634470 (γ 9 6)) from RS_o hT634522 ht634443
      have bp634532 : gB p634532 0 1000000 := ⟨by omega, by omega⟩
      have bp634533 : gB p634533 0 1000000 := ⟨by omega, by omega⟩
      refine Gw_callV (As := []) (gV_ok D I) (ct_7632_Code_countRows l hl0 D I γ el P634409 F634470 (γ 9 6) hT634522 ht634443 (by have qa0 : Int32.toInt 0 = 0 := (by decide); omega)) dr_cX17_count__98 ⟨wr_10_229, wr_1_15, wr_10_232, by decide, rfl, (Nat.le_of_ble_eq_true rfl), (Nat.le_of_ble_eq_true rfl)⟩ wr_10_230 wr_10_231 hm634528 he634529 rfl (show 0 + 0 ≤ 0 by first | omega | decide) (show 0 + 0 ≤ 0 by first | omega | decide) (Nat.le_of_ble_eq_true rfl) (fun r634526 w634527 dc634523 ds634524 hp634525 => ?_) (fun _ _ _ _ _ z => z.elim)
      obtain ⟨o634550, rfl, rfl, hdc, hds⟩ := hp634525
      have bo634550 := gB_any o634550
      change G _ _ _ _ _ _ _ (.int o634550 :: _) _ _ _
      refine G_widen (cs' := 0) (sl' := 0) (by omega) (by omega) ?_
      refine G_goto 105 dr_cX17_count__101 (by decide +kernel) ?_
      have ac634551 : (fI (F634470 q634411) 9).toInt = p634420.toInt := by rw [he634473]; rfl
      have ac634552 : (fI (F634470 q634411) 10).toInt = p634421.toInt := by rw [he634473]; rfl
      have ac634553 : (fI (F634470 q634411) 32).toInt = p634432.toInt := by rw [he634473]; rfl
      exact G_iretA dr_cX17_count__105 rfl (Nat.le_of_ble_eq_true rfl) (Nat.le_of_ble_eq_true rfl) ⟨F634470, o634550, rfl, rfl, hT634522, hs634474, (Nat.le_of_ble_eq_true rfl), (Nat.le_of_ble_eq_true rfl), (by omega), (by omega), (by omega)⟩
  by_cases hs634554 : p634412 = 2
  · have ehs634554 : p634412.toInt = 2 := gj_eq hs634554 (show Int32.toInt 2 = 2 by decide)
    have bp634412' : gB p634412 2 2 := ⟨by omega, by omega⟩
    refine G_eqi (y := 2) hs634554 ?_
    refine G_tableIn 106 dr_cX17_count__6 (by decide) (by decide) (by first | rfl | decide) (by decide) ?_
    refine G_aload_n 0 dr_cX17_count__106 rfl ?_
    refine Gp_get 33 hm634416 he634473 dr_cX17_count__107 (gk_X17 D I) (Nat.le_of_ble_eq_true rfl) wr_7_107 rfl ?_
    have bp634433 : gB p634433 (-2147483648) 2147483647 := (gB_any p634433)
    have hT634555 : RS D I P634409 F634470 γ el := RS_set hT n634472 htq634411 (by decide) ⟨q634418, q634419, p634420, p634421, p634422, p634423, p634424, p634425, p634426, p634427, p634428, p634429, p634430, 0, p634432, p634433, p634434, he634473, ⟨bp634420, bp634421, (hB634461.2.2.1), (hB634461.2.2.2.1), (hB634461.2.2.2.2.1), (hB634461.2.2.2.2.2.1), (hB634461.2.2.2.2.2.2.1), bp634432, (hB634461.2.2.2.2.2.2.2.2)⟩, ht634435, ht634436, ht634437, ht634438, ht634439, ht634440, ht634441, ht634442, ht634443, ht634444, ht634445, ht634446, ht634447, ht634448, ht634449, ht634450, ht634451, ht634452, ht634453, ht634454, ht634455, ht634456, ht634457, ht634458, hB634462⟩
    have ac634556 : (fI (F634470 q634411) 9).toInt = p634420.toInt := by rw [he634473]; rfl
    have ac634557 : (fI (F634470 q634411) 10).toInt = p634421.toInt := by rw [he634473]; rfl
    have ac634558 : (fI (F634470 q634411) 32).toInt = p634432.toInt := by rw [he634473]; rfl
    exact G_iretA dr_cX17_count__110 rfl (Nat.le_of_ble_eq_true rfl) (Nat.le_of_ble_eq_true rfl) ⟨F634470, p634433, rfl, rfl, hT634555, hs634474, (Nat.le_of_ble_eq_true rfl), (Nat.le_of_ble_eq_true rfl), (by omega), (by omega), (by omega)⟩
  by_cases hs634559 : p634412 = 3
  · have ehs634559 : p634412.toInt = 3 := gj_eq hs634559 (show Int32.toInt 3 = 3 by decide)
    have bp634412' : gB p634412 3 3 := ⟨by omega, by omega⟩
    refine G_eqi (y := 3) hs634559 ?_
    refine G_tableIn 111 dr_cX17_count__6 (by decide) (by decide) (by first | rfl | decide) (by decide) ?_
    refine G_aload_n 0 dr_cX17_count__111 rfl ?_
    refine Gp_get 32 hm634416 he634473 dr_cX17_count__112 (gk_X17 D I) (Nat.le_of_ble_eq_true rfl) wr_7_106 rfl ?_
    have hT634560 : RS D I P634409 F634470 γ el := RS_set hT n634472 htq634411 (by decide) ⟨q634418, q634419, p634420, p634421, p634422, p634423, p634424, p634425, p634426, p634427, p634428, p634429, p634430, 0, p634432, p634433, p634434, he634473, ⟨bp634420, bp634421, (hB634461.2.2.1), (hB634461.2.2.2.1), (hB634461.2.2.2.2.1), (hB634461.2.2.2.2.2.1), (hB634461.2.2.2.2.2.2.1), bp634432, (hB634461.2.2.2.2.2.2.2.2)⟩, ht634435, ht634436, ht634437, ht634438, ht634439, ht634440, ht634441, ht634442, ht634443, ht634444, ht634445, ht634446, ht634447, ht634448, ht634449, ht634450, ht634451, ht634452, ht634453, ht634454, ht634455, ht634456, ht634457, ht634458, hB634462⟩
    have ac634561 : (fI (F634470 q634411) 9).toInt = p634420.toInt := by rw [he634473]; rfl
    have ac634562 : (fI (F634470 q634411) 10).toInt = p634421.toInt := by rw [he634473]; rfl
    have ac634563 : (fI (F634470 q634411) 32).toInt = p634432.toInt := by rw [he634473]; rfl
    exact G_iretA dr_cX17_count__115 rfl (Nat.le_of_ble_eq_true rfl) (Nat.le_of_ble_eq_true rfl) ⟨F634470, p634432, rfl, rfl, hT634560, hs634474, (Nat.le_of_ble_eq_true rfl), (Nat.le_of_ble_eq_true rfl), (by omega), (by omega), (by omega)⟩
  by_cases hs634564 : p634412 = 4
  · have ehs634564 : p634412.toInt = 4 := gj_eq hs634564 (show Int32.toInt 4 = 4 by decide)
    have bp634412' : gB p634412 4 4 := ⟨by omega, by omega⟩
    refine G_eqi (y := 4) hs634564 ?_
    refine G_tableIn 116 dr_cX17_count__6 (by decide) (by decide) (by first | rfl | decide) (by decide) ?_
    refine G_aload_n 0 dr_cX17_count__116 rfl ?_
    refine Gp_get 34 hm634416 he634473 dr_cX17_count__117 (gk_X17 D I) (Nat.le_of_ble_eq_true rfl) wr_7_108 rfl ?_
    have bp634434 : gB p634434 0 16777216 := (hB634461.2.2.2.2.2.2.2.2)
    have hT634565 : RS D I P634409 F634470 γ el := RS_set hT n634472 htq634411 (by decide) ⟨q634418, q634419, p634420, p634421, p634422, p634423, p634424, p634425, p634426, p634427, p634428, p634429, p634430, 0, p634432, p634433, p634434, he634473, ⟨bp634420, bp634421, (hB634461.2.2.1), (hB634461.2.2.2.1), (hB634461.2.2.2.2.1), (hB634461.2.2.2.2.2.1), (hB634461.2.2.2.2.2.2.1), bp634432, bp634434⟩, ht634435, ht634436, ht634437, ht634438, ht634439, ht634440, ht634441, ht634442, ht634443, ht634444, ht634445, ht634446, ht634447, ht634448, ht634449, ht634450, ht634451, ht634452, ht634453, ht634454, ht634455, ht634456, ht634457, ht634458, hB634462⟩
    have ac634566 : (fI (F634470 q634411) 9).toInt = p634420.toInt := by rw [he634473]; rfl
    have ac634567 : (fI (F634470 q634411) 10).toInt = p634421.toInt := by rw [he634473]; rfl
    have ac634568 : (fI (F634470 q634411) 32).toInt = p634432.toInt := by rw [he634473]; rfl
    exact G_iretA dr_cX17_count__120 rfl (Nat.le_of_ble_eq_true rfl) (Nat.le_of_ble_eq_true rfl) ⟨F634470, p634434, rfl, rfl, hT634565, hs634474, (Nat.le_of_ble_eq_true rfl), (Nat.le_of_ble_eq_true rfl), (by omega), (by omega), (by omega)⟩
  by_cases hs634569 : p634412 = 5
  · have ehs634569 : p634412.toInt = 5 := gj_eq hs634569 (show Int32.toInt 5 = 5 by decide)
    have bp634412' : gB p634412 5 5 := ⟨by omega, by omega⟩
    refine G_eqi (y := 5) hs634569 ?_
    refine G_tableIn 121 dr_cX17_count__6 (by decide) (by decide) (by first | rfl | decide) (by decide) ?_
    refine G_aload_n 0 dr_cX17_count__121 rfl ?_
    refine Gp_get 10 hm634416 he634473 dr_cX17_count__122 (gk_X17 D I) (Nat.le_of_ble_eq_true rfl) wr_7_84 rfl ?_
    refine G_if_eq 138 dr_cX17_count__125 (by decide +kernel) (fun hc634570 => ?_) (fun hc634570 => ?_)
    · have r634571 : p634421.toInt = 0 := gj_eq hc634570 (show Int32.toInt 0 = 0 by decide)
      have bp634421' : gB p634421 0 0 := gB_t0 r634571
      refine G_iconst 0 dr_cX17_count__138 (by decide +kernel) ?_
      have hT634572 : RS D I P634409 F634470 γ el := RS_set hT n634472 htq634411 (by decide) ⟨q634418, q634419, p634420, p634421, p634422, p634423, p634424, p634425, p634426, p634427, p634428, p634429, p634430, 0, p634432, p634433, p634434, he634473, ⟨bp634420, (gB_w bp634421' (by decide) (by decide)), (hB634461.2.2.1), (hB634461.2.2.2.1), (hB634461.2.2.2.2.1), (hB634461.2.2.2.2.2.1), (hB634461.2.2.2.2.2.2.1), bp634432, (hB634461.2.2.2.2.2.2.2.2)⟩, ht634435, ht634436, ht634437, ht634438, ht634439, ht634440, ht634441, ht634442, ht634443, ht634444, ht634445, ht634446, ht634447, ht634448, ht634449, ht634450, ht634451, ht634452, ht634453, ht634454, ht634455, ht634456, ht634457, ht634458, hB634462⟩
      have ac634573 : (fI (F634470 q634411) 9).toInt = p634420.toInt := by rw [he634473]; rfl
      have ac634574 : (fI (F634470 q634411) 10).toInt = p634421.toInt := by rw [he634473]; rfl
      have ac634575 : (fI (F634470 q634411) 32).toInt = p634432.toInt := by rw [he634473]; rfl
      exact G_iretA dr_cX17_count__139 rfl (Nat.le_of_ble_eq_true rfl) (Nat.le_of_ble_eq_true rfl) ⟨F634470, 0, rfl, rfl, hT634572, hs634474, (Nat.le_of_ble_eq_true rfl), (Nat.le_of_ble_eq_true rfl), (by have qa0 : Int32.toInt 0 = 0 := (by decide); omega), (by have qa0 : Int32.toInt 0 = 0 := (by decide); omega), (by have qa0 : Int32.toInt 0 = 0 := (by decide); omega)⟩
    · have r634576 : p634421.toInt ≠ 0 := gj_neq hc634570 (show Int32.toInt 0 = 0 by decide)
      have bp634421' : gB p634421 1 1 := gB_t1 bp634421 r634576
      refine G_aload_n 0 dr_cX17_count__128 rfl ?_
      refine Gp_get 7 hm634416 he634473 dr_cX17_count__129 (gk_X17 D I) (Nat.le_of_ble_eq_true rfl) wr_7_81 rfl ?_
      have hT634577 : RS D I P634409 F634470 γ el := RS_set hT n634472 htq634411 (by decide) ⟨q634418, q634419, p634420, p634421, p634422, p634423, p634424, p634425, p634426, p634427, p634428, p634429, p634430, 0, p634432, p634433, p634434, he634473, ⟨bp634420, (gB_w bp634421' (by decide) (by decide)), (hB634461.2.2.1), (hB634461.2.2.2.1), (hB634461.2.2.2.2.1), (hB634461.2.2.2.2.2.1), (hB634461.2.2.2.2.2.2.1), bp634432, (hB634461.2.2.2.2.2.2.2.2)⟩, ht634435, ht634436, ht634437, ht634438, ht634439, ht634440, ht634441, ht634442, ht634443, ht634444, ht634445, ht634446, ht634447, ht634448, ht634449, ht634450, ht634451, ht634452, ht634453, ht634454, ht634455, ht634456, ht634457, ht634458, hB634462⟩
      have hm634583 : (γ 9 7) ∈ P634409 := RS_m hT634577 ht634444 (by decide)
      obtain ⟨q634585, q634586, p634587, p634588, he634584, ht634604, ht634589, ht634590, ht634591, ht634592, r634593, r634594, r634595, r634596, r634597, r634598, r634599, r634600, r634601, r634602, r634603⟩ := show rk_9 γ el (γ 9 7) (F634470 (γ 9 7)) from RS_o hT634577 ht634444
      have bp634587 : gB p634587 0 1000000 := ⟨by omega, by omega⟩
      have bp634588 : gB p634588 0 1000000 := ⟨by omega, by omega⟩
      refine Gw_callV (As := []) (gV_ok D I) (ct_7632_Code_countRows l hl0 D I γ el P634409 F634470 (γ 9 7) hT634577 ht634444 (by have qa0 : Int32.toInt 0 = 0 := (by decide); omega)) dr_cX17_count__132 ⟨wr_10_229, wr_1_15, wr_10_232, by decide, rfl, (Nat.le_of_ble_eq_true rfl), (Nat.le_of_ble_eq_true rfl)⟩ wr_10_230 wr_10_231 hm634583 he634584 rfl (show 0 + 0 ≤ 0 by first | omega | decide) (show 0 + 0 ≤ 0 by first | omega | decide) (Nat.le_of_ble_eq_true rfl) (fun r634581 w634582 dc634578 ds634579 hp634580 => ?_) (fun _ _ _ _ _ z => z.elim)
      obtain ⟨o634605, rfl, rfl, hdc, hds⟩ := hp634580
      have bo634605 := gB_any o634605
      change G _ _ _ _ _ _ _ (.int o634605 :: _) _ _ _
      refine G_widen (cs' := 0) (sl' := 0) (by omega) (by omega) ?_
      refine G_goto 139 dr_cX17_count__135 (by decide +kernel) ?_
      have ac634606 : (fI (F634470 q634411) 9).toInt = p634420.toInt := by rw [he634473]; rfl
      have ac634607 : (fI (F634470 q634411) 10).toInt = p634421.toInt := by rw [he634473]; rfl
      have ac634608 : (fI (F634470 q634411) 32).toInt = p634432.toInt := by rw [he634473]; rfl
      exact G_iretA dr_cX17_count__139 rfl (Nat.le_of_ble_eq_true rfl) (Nat.le_of_ble_eq_true rfl) ⟨F634470, o634605, rfl, rfl, hT634577, hs634474, (Nat.le_of_ble_eq_true rfl), (Nat.le_of_ble_eq_true rfl), (by omega), (by omega), (by omega)⟩
  by_cases hs634609 : p634412 = 6
  · have ehs634609 : p634412.toInt = 6 := gj_eq hs634609 (show Int32.toInt 6 = 6 by decide)
    have bp634412' : gB p634412 6 6 := ⟨by omega, by omega⟩
    refine G_eqi (y := 6) hs634609 ?_
    refine G_tableIn 140 dr_cX17_count__6 (by decide) (by decide) (by first | rfl | decide) (by decide) ?_
    refine G_aload_n 0 dr_cX17_count__140 rfl ?_
    refine Gp_get 10 hm634416 he634473 dr_cX17_count__141 (gk_X17 D I) (Nat.le_of_ble_eq_true rfl) wr_7_84 rfl ?_
    refine G_if_eq 154 dr_cX17_count__144 (by decide +kernel) (fun hc634610 => ?_) (fun hc634610 => ?_)
    · have r634611 : p634421.toInt = 0 := gj_eq hc634610 (show Int32.toInt 0 = 0 by decide)
      have bp634421' : gB p634421 0 0 := gB_t0 r634611
      refine G_iconst 0 dr_cX17_count__154 (by decide +kernel) ?_
      have hT634612 : RS D I P634409 F634470 γ el := RS_set hT n634472 htq634411 (by decide) ⟨q634418, q634419, p634420, p634421, p634422, p634423, p634424, p634425, p634426, p634427, p634428, p634429, p634430, 0, p634432, p634433, p634434, he634473, ⟨bp634420, (gB_w bp634421' (by decide) (by decide)), (hB634461.2.2.1), (hB634461.2.2.2.1), (hB634461.2.2.2.2.1), (hB634461.2.2.2.2.2.1), (hB634461.2.2.2.2.2.2.1), bp634432, (hB634461.2.2.2.2.2.2.2.2)⟩, ht634435, ht634436, ht634437, ht634438, ht634439, ht634440, ht634441, ht634442, ht634443, ht634444, ht634445, ht634446, ht634447, ht634448, ht634449, ht634450, ht634451, ht634452, ht634453, ht634454, ht634455, ht634456, ht634457, ht634458, hB634462⟩
      have ac634613 : (fI (F634470 q634411) 9).toInt = p634420.toInt := by rw [he634473]; rfl
      have ac634614 : (fI (F634470 q634411) 10).toInt = p634421.toInt := by rw [he634473]; rfl
      have ac634615 : (fI (F634470 q634411) 32).toInt = p634432.toInt := by rw [he634473]; rfl
      exact G_iretA dr_cX17_count__155 rfl (Nat.le_of_ble_eq_true rfl) (Nat.le_of_ble_eq_true rfl) ⟨F634470, 0, rfl, rfl, hT634612, hs634474, (Nat.le_of_ble_eq_true rfl), (Nat.le_of_ble_eq_true rfl), (by have qa0 : Int32.toInt 0 = 0 := (by decide); omega), (by have qa0 : Int32.toInt 0 = 0 := (by decide); omega), (by have qa0 : Int32.toInt 0 = 0 := (by decide); omega)⟩
    · have r634616 : p634421.toInt ≠ 0 := gj_neq hc634610 (show Int32.toInt 0 = 0 by decide)
      have bp634421' : gB p634421 1 1 := gB_t1 bp634421 r634616
      refine G_aload_n 0 dr_cX17_count__147 rfl ?_
      have hT634617 : RS D I P634409 F634470 γ el := RS_set hT n634472 htq634411 (by decide) ⟨q634418, q634419, p634420, p634421, p634422, p634423, p634424, p634425, p634426, p634427, p634428, p634429, p634430, 0, p634432, p634433, p634434, he634473, ⟨bp634420, (gB_w bp634421' (by decide) (by decide)), (hB634461.2.2.1), (hB634461.2.2.2.1), (hB634461.2.2.2.2.1), (hB634461.2.2.2.2.2.1), (hB634461.2.2.2.2.2.2.1), bp634432, (hB634461.2.2.2.2.2.2.2.2)⟩, ht634435, ht634436, ht634437, ht634438, ht634439, ht634440, ht634441, ht634442, ht634443, ht634444, ht634445, ht634446, ht634447, ht634448, ht634449, ht634450, ht634451, ht634452, ht634453, ht634454, ht634455, ht634456, ht634457, ht634458, hB634462⟩
      have ac634874 : (fI (F634470 q634411) 9).toInt = p634420.toInt := by rw [he634473]; rfl
      have ac634875 : (fI (F634470 q634411) 10).toInt = p634421.toInt := by rw [he634473]; rfl
      have ac634876 : (fI (F634470 q634411) 32).toInt = p634432.toInt := by rw [he634473]; rfl
      refine Gw_callV (As := []) (gV_ok D I) (ct_634622_SpillForgeModel_colourCount l hl0 D I γ el P634409 F634470 q634411 hT634617 htq634411 (by have qa0 : Int32.toInt 0 = 0 := (by decide); omega)) dr_cX17_count__148 ⟨wr_11_75, wr_1_14, wr_11_78, by decide, rfl, (Nat.le_of_ble_eq_true rfl), (Nat.le_of_ble_eq_true rfl)⟩ wr_11_77 wr_p_112 hm634416 he634473 rfl (show 0 + 0 ≤ 0 by first | omega | decide) (show 0 + 0 ≤ 0 by first | omega | decide) (Nat.le_of_ble_eq_true rfl) (fun r634880 w634881 dc634877 ds634878 hp634879 => ?_) (fun _ _ _ _ _ z => z.elim)
      obtain ⟨F634884, o634882, rfl, rfl, hT634885, hs634886, hdc, hds, x634883⟩ := hp634879
      have hs634887 : rStr γ [] F634410 F634884 := rStr_tr hs634474 hs634886
      have kp634888 : F634884 q634411 = F634470 q634411 := x634883
      have he634889 : F634884 q634411 = .inr (22, [.ref (γ 9 0), .ref (γ 9 1), .ref (γ 9 2), .ref (γ 9 3), .ref (γ 9 4), .ref (γ 9 5), .ref (γ 9 6), .ref (γ 9 7), .ref (γ 9 8), .int p634420, .int p634421, .int p634422, .int p634423, .int p634424, .int p634425, .ref (γ 9 15), .ref (γ 9 16), .ref (γ 9 17), .ref (γ 9 18), .ref (γ 9 19), .ref (γ 9 20), .ref (γ 9 21), .ref (γ 9 22), .int p634426, .int p634427, .int p634428, .int p634429, .int p634430, .ref q634418, .ref (γ 9 29), .int 0, .ref (γ 9 31), .int p634432, .int p634433, .int p634434, .ref q634419]) := (x634883).trans he634473
      have bo634882 := gB_any o634882
      change G _ _ _ _ _ _ _ (.int o634882 :: _) _ _ _
      refine G_widen (cs' := 0) (sl' := 0) (by omega) (by omega) ?_
      refine G_goto 155 dr_cX17_count__151 (by decide +kernel) ?_
      have ac634890 : (fI (F634884 q634411) 9).toInt = p634420.toInt := by rw [he634889]; rfl
      have ac634891 : (fI (F634884 q634411) 10).toInt = p634421.toInt := by rw [he634889]; rfl
      have ac634892 : (fI (F634884 q634411) 32).toInt = p634432.toInt := by rw [he634889]; rfl
      exact G_iretA dr_cX17_count__155 rfl (Nat.le_of_ble_eq_true rfl) (Nat.le_of_ble_eq_true rfl) ⟨F634884, o634882, rfl, rfl, hT634885, hs634887, (Nat.le_of_ble_eq_true rfl), (Nat.le_of_ble_eq_true rfl), (by omega), (by omega), (by omega)⟩
  by_cases hs634893 : p634412 = 7
  · have ehs634893 : p634412.toInt = 7 := gj_eq hs634893 (show Int32.toInt 7 = 7 by decide)
    have bp634412' : gB p634412 7 7 := ⟨by omega, by omega⟩
    refine G_eqi (y := 7) hs634893 ?_
    refine G_tableIn 156 dr_cX17_count__6 (by decide) (by decide) (by first | rfl | decide) (by decide) ?_
    refine G_aload_n 0 dr_cX17_count__156 rfl ?_
    refine Gp_get 10 hm634416 he634473 dr_cX17_count__157 (gk_X17 D I) (Nat.le_of_ble_eq_true rfl) wr_7_84 rfl ?_
    refine G_if_eq 170 dr_cX17_count__160 (by decide +kernel) (fun hc634894 => ?_) (fun hc634894 => ?_)
    · have r634895 : p634421.toInt = 0 := gj_eq hc634894 (show Int32.toInt 0 = 0 by decide)
      have bp634421' : gB p634421 0 0 := gB_t0 r634895
      refine G_iconst 0 dr_cX17_count__170 (by decide +kernel) ?_
      have hT634896 : RS D I P634409 F634470 γ el := RS_set hT n634472 htq634411 (by decide) ⟨q634418, q634419, p634420, p634421, p634422, p634423, p634424, p634425, p634426, p634427, p634428, p634429, p634430, 0, p634432, p634433, p634434, he634473, ⟨bp634420, (gB_w bp634421' (by decide) (by decide)), (hB634461.2.2.1), (hB634461.2.2.2.1), (hB634461.2.2.2.2.1), (hB634461.2.2.2.2.2.1), (hB634461.2.2.2.2.2.2.1), bp634432, (hB634461.2.2.2.2.2.2.2.2)⟩, ht634435, ht634436, ht634437, ht634438, ht634439, ht634440, ht634441, ht634442, ht634443, ht634444, ht634445, ht634446, ht634447, ht634448, ht634449, ht634450, ht634451, ht634452, ht634453, ht634454, ht634455, ht634456, ht634457, ht634458, hB634462⟩
      have ac634897 : (fI (F634470 q634411) 9).toInt = p634420.toInt := by rw [he634473]; rfl
      have ac634898 : (fI (F634470 q634411) 10).toInt = p634421.toInt := by rw [he634473]; rfl
      have ac634899 : (fI (F634470 q634411) 32).toInt = p634432.toInt := by rw [he634473]; rfl
      exact G_iretA dr_cX17_count__171 rfl (Nat.le_of_ble_eq_true rfl) (Nat.le_of_ble_eq_true rfl) ⟨F634470, 0, rfl, rfl, hT634896, hs634474, (Nat.le_of_ble_eq_true rfl), (Nat.le_of_ble_eq_true rfl), (by have qa0 : Int32.toInt 0 = 0 := (by decide); omega), (by have qa0 : Int32.toInt 0 = 0 := (by decide); omega), (by have qa0 : Int32.toInt 0 = 0 := (by decide); omega)⟩
    · have r634900 : p634421.toInt ≠ 0 := gj_neq hc634894 (show Int32.toInt 0 = 0 by decide)
      have bp634421' : gB p634421 1 1 := gB_t1 bp634421 r634900
      refine G_aload_n 0 dr_cX17_count__163 rfl ?_
      refine Gp_get 11 hm634416 he634473 dr_cX17_count__164 (gk_X17 D I) (Nat.le_of_ble_eq_true rfl) wr_7_85 rfl ?_
      have bp634422 : gB p634422 0 100 := (hB634461.2.2.1)
      refine G_goto 171 dr_cX17_count__167 (by decide +kernel) ?_
      have hT634901 : RS D I P634409 F634470 γ el := RS_set hT n634472 htq634411 (by decide) ⟨q634418, q634419, p634420, p634421, p634422, p634423, p634424, p634425, p634426, p634427, p634428, p634429, p634430, 0, p634432, p634433, p634434, he634473, ⟨bp634420, (gB_w bp634421' (by decide) (by decide)), bp634422, (hB634461.2.2.2.1), (hB634461.2.2.2.2.1), (hB634461.2.2.2.2.2.1), (hB634461.2.2.2.2.2.2.1), bp634432, (hB634461.2.2.2.2.2.2.2.2)⟩, ht634435, ht634436, ht634437, ht634438, ht634439, ht634440, ht634441, ht634442, ht634443, ht634444, ht634445, ht634446, ht634447, ht634448, ht634449, ht634450, ht634451, ht634452, ht634453, ht634454, ht634455, ht634456, ht634457, ht634458, hB634462⟩
      have ac634902 : (fI (F634470 q634411) 9).toInt = p634420.toInt := by rw [he634473]; rfl
      have ac634903 : (fI (F634470 q634411) 10).toInt = p634421.toInt := by rw [he634473]; rfl
      have ac634904 : (fI (F634470 q634411) 32).toInt = p634432.toInt := by rw [he634473]; rfl
      exact G_iretA dr_cX17_count__171 rfl (Nat.le_of_ble_eq_true rfl) (Nat.le_of_ble_eq_true rfl) ⟨F634470, p634422, rfl, rfl, hT634901, hs634474, (Nat.le_of_ble_eq_true rfl), (Nat.le_of_ble_eq_true rfl), (by omega), (by omega), (by omega)⟩
  by_cases hs634905 : p634412 = 8
  · have ehs634905 : p634412.toInt = 8 := gj_eq hs634905 (show Int32.toInt 8 = 8 by decide)
    have bp634412' : gB p634412 8 8 := ⟨by omega, by omega⟩
    refine G_eqi (y := 8) hs634905 ?_
    refine G_tableIn 172 dr_cX17_count__6 (by decide) (by decide) (by first | rfl | decide) (by decide) ?_
    refine G_aload_n 0 dr_cX17_count__172 rfl ?_
    refine Gp_get 10 hm634416 he634473 dr_cX17_count__173 (gk_X17 D I) (Nat.le_of_ble_eq_true rfl) wr_7_84 rfl ?_
    refine G_if_eq 186 dr_cX17_count__176 (by decide +kernel) (fun hc634906 => ?_) (fun hc634906 => ?_)
    · have r634907 : p634421.toInt = 0 := gj_eq hc634906 (show Int32.toInt 0 = 0 by decide)
      have bp634421' : gB p634421 0 0 := gB_t0 r634907
      refine G_iconst 0 dr_cX17_count__186 (by decide +kernel) ?_
      have hT634908 : RS D I P634409 F634470 γ el := RS_set hT n634472 htq634411 (by decide) ⟨q634418, q634419, p634420, p634421, p634422, p634423, p634424, p634425, p634426, p634427, p634428, p634429, p634430, 0, p634432, p634433, p634434, he634473, ⟨bp634420, (gB_w bp634421' (by decide) (by decide)), (hB634461.2.2.1), (hB634461.2.2.2.1), (hB634461.2.2.2.2.1), (hB634461.2.2.2.2.2.1), (hB634461.2.2.2.2.2.2.1), bp634432, (hB634461.2.2.2.2.2.2.2.2)⟩, ht634435, ht634436, ht634437, ht634438, ht634439, ht634440, ht634441, ht634442, ht634443, ht634444, ht634445, ht634446, ht634447, ht634448, ht634449, ht634450, ht634451, ht634452, ht634453, ht634454, ht634455, ht634456, ht634457, ht634458, hB634462⟩
      have ac634909 : (fI (F634470 q634411) 9).toInt = p634420.toInt := by rw [he634473]; rfl
      have ac634910 : (fI (F634470 q634411) 10).toInt = p634421.toInt := by rw [he634473]; rfl
      have ac634911 : (fI (F634470 q634411) 32).toInt = p634432.toInt := by rw [he634473]; rfl
      exact G_iretA dr_cX17_count__187 rfl (Nat.le_of_ble_eq_true rfl) (Nat.le_of_ble_eq_true rfl) ⟨F634470, 0, rfl, rfl, hT634908, hs634474, (Nat.le_of_ble_eq_true rfl), (Nat.le_of_ble_eq_true rfl), (by have qa0 : Int32.toInt 0 = 0 := (by decide); omega), (by have qa0 : Int32.toInt 0 = 0 := (by decide); omega), (by have qa0 : Int32.toInt 0 = 0 := (by decide); omega)⟩
    · have r634912 : p634421.toInt ≠ 0 := gj_neq hc634906 (show Int32.toInt 0 = 0 by decide)
      have bp634421' : gB p634421 1 1 := gB_t1 bp634421 r634912
      refine G_aload_n 0 dr_cX17_count__179 rfl ?_
      refine Gp_get 12 hm634416 he634473 dr_cX17_count__180 (gk_X17 D I) (Nat.le_of_ble_eq_true rfl) wr_7_86 rfl ?_
      have bp634423 : gB p634423 (-2147483648) 2147483647 := (gB_any p634423)
      refine G_goto 187 dr_cX17_count__183 (by decide +kernel) ?_
      have hT634913 : RS D I P634409 F634470 γ el := RS_set hT n634472 htq634411 (by decide) ⟨q634418, q634419, p634420, p634421, p634422, p634423, p634424, p634425, p634426, p634427, p634428, p634429, p634430, 0, p634432, p634433, p634434, he634473, ⟨bp634420, (gB_w bp634421' (by decide) (by decide)), (hB634461.2.2.1), (hB634461.2.2.2.1), (hB634461.2.2.2.2.1), (hB634461.2.2.2.2.2.1), (hB634461.2.2.2.2.2.2.1), bp634432, (hB634461.2.2.2.2.2.2.2.2)⟩, ht634435, ht634436, ht634437, ht634438, ht634439, ht634440, ht634441, ht634442, ht634443, ht634444, ht634445, ht634446, ht634447, ht634448, ht634449, ht634450, ht634451, ht634452, ht634453, ht634454, ht634455, ht634456, ht634457, ht634458, hB634462⟩
      have ac634914 : (fI (F634470 q634411) 9).toInt = p634420.toInt := by rw [he634473]; rfl
      have ac634915 : (fI (F634470 q634411) 10).toInt = p634421.toInt := by rw [he634473]; rfl
      have ac634916 : (fI (F634470 q634411) 32).toInt = p634432.toInt := by rw [he634473]; rfl
      exact G_iretA dr_cX17_count__187 rfl (Nat.le_of_ble_eq_true rfl) (Nat.le_of_ble_eq_true rfl) ⟨F634470, p634423, rfl, rfl, hT634913, hs634474, (Nat.le_of_ble_eq_true rfl), (Nat.le_of_ble_eq_true rfl), (by omega), (by omega), (by omega)⟩
  by_cases hs634917 : p634412 = 9
  · have ehs634917 : p634412.toInt = 9 := gj_eq hs634917 (show Int32.toInt 9 = 9 by decide)
    have bp634412' : gB p634412 9 9 := ⟨by omega, by omega⟩
    refine G_eqi (y := 9) hs634917 ?_
    refine G_tableIn 188 dr_cX17_count__6 (by decide) (by decide) (by first | rfl | decide) (by decide) ?_
    refine G_aload_n 0 dr_cX17_count__188 rfl ?_
    refine Gp_get 10 hm634416 he634473 dr_cX17_count__189 (gk_X17 D I) (Nat.le_of_ble_eq_true rfl) wr_7_84 rfl ?_
    refine G_if_eq 202 dr_cX17_count__192 (by decide +kernel) (fun hc634918 => ?_) (fun hc634918 => ?_)
    · have r634919 : p634421.toInt = 0 := gj_eq hc634918 (show Int32.toInt 0 = 0 by decide)
      have bp634421' : gB p634421 0 0 := gB_t0 r634919
      refine G_iconst 0 dr_cX17_count__202 (by decide +kernel) ?_
      have hT634920 : RS D I P634409 F634470 γ el := RS_set hT n634472 htq634411 (by decide) ⟨q634418, q634419, p634420, p634421, p634422, p634423, p634424, p634425, p634426, p634427, p634428, p634429, p634430, 0, p634432, p634433, p634434, he634473, ⟨bp634420, (gB_w bp634421' (by decide) (by decide)), (hB634461.2.2.1), (hB634461.2.2.2.1), (hB634461.2.2.2.2.1), (hB634461.2.2.2.2.2.1), (hB634461.2.2.2.2.2.2.1), bp634432, (hB634461.2.2.2.2.2.2.2.2)⟩, ht634435, ht634436, ht634437, ht634438, ht634439, ht634440, ht634441, ht634442, ht634443, ht634444, ht634445, ht634446, ht634447, ht634448, ht634449, ht634450, ht634451, ht634452, ht634453, ht634454, ht634455, ht634456, ht634457, ht634458, hB634462⟩
      have ac634921 : (fI (F634470 q634411) 9).toInt = p634420.toInt := by rw [he634473]; rfl
      have ac634922 : (fI (F634470 q634411) 10).toInt = p634421.toInt := by rw [he634473]; rfl
      have ac634923 : (fI (F634470 q634411) 32).toInt = p634432.toInt := by rw [he634473]; rfl
      exact G_iretA dr_cX17_count__203 rfl (Nat.le_of_ble_eq_true rfl) (Nat.le_of_ble_eq_true rfl) ⟨F634470, 0, rfl, rfl, hT634920, hs634474, (Nat.le_of_ble_eq_true rfl), (Nat.le_of_ble_eq_true rfl), (by have qa0 : Int32.toInt 0 = 0 := (by decide); omega), (by have qa0 : Int32.toInt 0 = 0 := (by decide); omega), (by have qa0 : Int32.toInt 0 = 0 := (by decide); omega)⟩
    · have r634924 : p634421.toInt ≠ 0 := gj_neq hc634918 (show Int32.toInt 0 = 0 by decide)
      have bp634421' : gB p634421 1 1 := gB_t1 bp634421 r634924
      refine G_aload_n 0 dr_cX17_count__195 rfl ?_
      refine Gp_get 13 hm634416 he634473 dr_cX17_count__196 (gk_X17 D I) (Nat.le_of_ble_eq_true rfl) wr_7_87 rfl ?_
      have bp634424 : gB p634424 (-2147483648) 2147483647 := (gB_any p634424)
      refine G_goto 203 dr_cX17_count__199 (by decide +kernel) ?_
      have hT634925 : RS D I P634409 F634470 γ el := RS_set hT n634472 htq634411 (by decide) ⟨q634418, q634419, p634420, p634421, p634422, p634423, p634424, p634425, p634426, p634427, p634428, p634429, p634430, 0, p634432, p634433, p634434, he634473, ⟨bp634420, (gB_w bp634421' (by decide) (by decide)), (hB634461.2.2.1), (hB634461.2.2.2.1), (hB634461.2.2.2.2.1), (hB634461.2.2.2.2.2.1), (hB634461.2.2.2.2.2.2.1), bp634432, (hB634461.2.2.2.2.2.2.2.2)⟩, ht634435, ht634436, ht634437, ht634438, ht634439, ht634440, ht634441, ht634442, ht634443, ht634444, ht634445, ht634446, ht634447, ht634448, ht634449, ht634450, ht634451, ht634452, ht634453, ht634454, ht634455, ht634456, ht634457, ht634458, hB634462⟩
      have ac634926 : (fI (F634470 q634411) 9).toInt = p634420.toInt := by rw [he634473]; rfl
      have ac634927 : (fI (F634470 q634411) 10).toInt = p634421.toInt := by rw [he634473]; rfl
      have ac634928 : (fI (F634470 q634411) 32).toInt = p634432.toInt := by rw [he634473]; rfl
      exact G_iretA dr_cX17_count__203 rfl (Nat.le_of_ble_eq_true rfl) (Nat.le_of_ble_eq_true rfl) ⟨F634470, p634424, rfl, rfl, hT634925, hs634474, (Nat.le_of_ble_eq_true rfl), (Nat.le_of_ble_eq_true rfl), (by omega), (by omega), (by omega)⟩
  by_cases hs634929 : p634412 = 10
  · have ehs634929 : p634412.toInt = 10 := gj_eq hs634929 (show Int32.toInt 10 = 10 by decide)
    have bp634412' : gB p634412 10 10 := ⟨by omega, by omega⟩
    refine G_eqi (y := 10) hs634929 ?_
    refine G_tableIn 204 dr_cX17_count__6 (by decide) (by decide) (by first | rfl | decide) (by decide) ?_
    refine G_aload_n 0 dr_cX17_count__204 rfl ?_
    refine Gp_get 10 hm634416 he634473 dr_cX17_count__205 (gk_X17 D I) (Nat.le_of_ble_eq_true rfl) wr_7_84 rfl ?_
    refine G_if_eq 223 dr_cX17_count__208 (by decide +kernel) (fun hc634930 => ?_) (fun hc634930 => ?_)
    · have r634931 : p634421.toInt = 0 := gj_eq hc634930 (show Int32.toInt 0 = 0 by decide)
      have bp634421' : gB p634421 0 0 := gB_t0 r634931
      refine G_iconst 0 dr_cX17_count__223 (by decide +kernel) ?_
      have hT634932 : RS D I P634409 F634470 γ el := RS_set hT n634472 htq634411 (by decide) ⟨q634418, q634419, p634420, p634421, p634422, p634423, p634424, p634425, p634426, p634427, p634428, p634429, p634430, 0, p634432, p634433, p634434, he634473, ⟨bp634420, (gB_w bp634421' (by decide) (by decide)), (hB634461.2.2.1), (hB634461.2.2.2.1), (hB634461.2.2.2.2.1), (hB634461.2.2.2.2.2.1), (hB634461.2.2.2.2.2.2.1), bp634432, (hB634461.2.2.2.2.2.2.2.2)⟩, ht634435, ht634436, ht634437, ht634438, ht634439, ht634440, ht634441, ht634442, ht634443, ht634444, ht634445, ht634446, ht634447, ht634448, ht634449, ht634450, ht634451, ht634452, ht634453, ht634454, ht634455, ht634456, ht634457, ht634458, hB634462⟩
      have ac634933 : (fI (F634470 q634411) 9).toInt = p634420.toInt := by rw [he634473]; rfl
      have ac634934 : (fI (F634470 q634411) 10).toInt = p634421.toInt := by rw [he634473]; rfl
      have ac634935 : (fI (F634470 q634411) 32).toInt = p634432.toInt := by rw [he634473]; rfl
      exact G_iretA dr_cX17_count__224 rfl (Nat.le_of_ble_eq_true rfl) (Nat.le_of_ble_eq_true rfl) ⟨F634470, 0, rfl, rfl, hT634932, hs634474, (Nat.le_of_ble_eq_true rfl), (Nat.le_of_ble_eq_true rfl), (by have qa0 : Int32.toInt 0 = 0 := (by decide); omega), (by have qa0 : Int32.toInt 0 = 0 := (by decide); omega), (by have qa0 : Int32.toInt 0 = 0 := (by decide); omega)⟩
    · have r634936 : p634421.toInt ≠ 0 := gj_neq hc634930 (show Int32.toInt 0 = 0 by decide)
      have bp634421' : gB p634421 1 1 := gB_t1 bp634421 r634936
      refine G_aload_n 0 dr_cX17_count__211 rfl ?_
      refine Gp_get 7 hm634416 he634473 dr_cX17_count__212 (gk_X17 D I) (Nat.le_of_ble_eq_true rfl) wr_7_81 rfl ?_
      refine G_bipush 21 dr_cX17_count__215 (by decide +kernel) ?_
      have hT634937 : RS D I P634409 F634470 γ el := RS_set hT n634472 htq634411 (by decide) ⟨q634418, q634419, p634420, p634421, p634422, p634423, p634424, p634425, p634426, p634427, p634428, p634429, p634430, 0, p634432, p634433, p634434, he634473, ⟨bp634420, (gB_w bp634421' (by decide) (by decide)), (hB634461.2.2.1), (hB634461.2.2.2.1), (hB634461.2.2.2.2.1), (hB634461.2.2.2.2.2.1), (hB634461.2.2.2.2.2.2.1), bp634432, (hB634461.2.2.2.2.2.2.2.2)⟩, ht634435, ht634436, ht634437, ht634438, ht634439, ht634440, ht634441, ht634442, ht634443, ht634444, ht634445, ht634446, ht634447, ht634448, ht634449, ht634450, ht634451, ht634452, ht634453, ht634454, ht634455, ht634456, ht634457, ht634458, hB634462⟩
      have hm634943 : (γ 9 7) ∈ P634409 := RS_m hT634937 ht634444 (by decide)
      obtain ⟨q634945, q634946, p634947, p634948, he634944, ht634964, ht634949, ht634950, ht634951, ht634952, r634953, r634954, r634955, r634956, r634957, r634958, r634959, r634960, r634961, r634962, r634963⟩ := show rk_9 γ el (γ 9 7) (F634470 (γ 9 7)) from RS_o hT634937 ht634444
      have bp634947 : gB p634947 0 1000000 := ⟨by omega, by omega⟩
      have bp634948 : gB p634948 0 1000000 := ⟨by omega, by omega⟩
      refine Gw_callV (As := [.int 21]) (gV_ok D I) (ct_8586_Code_count l hl0 D I γ el P634409 F634470 (γ 9 7) 21 hT634937 ht634444 (by have qa0 : Int32.toInt 0 = 0 := (by decide); omega)) dr_cX17_count__217 ⟨wr_11_79, wr_1_15, wr_11_82, by decide, rfl, (Nat.le_of_ble_eq_true rfl), (Nat.le_of_ble_eq_true rfl)⟩ wr_11_80 wr_11_81 hm634943 he634944 rfl (show 0 + 0 ≤ 0 by first | omega | decide) (show 0 + 0 ≤ 0 by first | omega | decide) (Nat.le_of_ble_eq_true rfl) (fun r634941 w634942 dc634938 ds634939 hp634940 => ?_) (fun _ _ _ _ _ z => z.elim)
      obtain ⟨o634965, rfl, rfl, hdc, hds⟩ := hp634940
      have bo634965 := gB_any o634965
      change G _ _ _ _ _ _ _ (.int o634965 :: _) _ _ _
      refine G_widen (cs' := 0) (sl' := 0) (by omega) (by omega) ?_
      refine G_goto 224 dr_cX17_count__220 (by decide +kernel) ?_
      have ac634966 : (fI (F634470 q634411) 9).toInt = p634420.toInt := by rw [he634473]; rfl
      have ac634967 : (fI (F634470 q634411) 10).toInt = p634421.toInt := by rw [he634473]; rfl
      have ac634968 : (fI (F634470 q634411) 32).toInt = p634432.toInt := by rw [he634473]; rfl
      exact G_iretA dr_cX17_count__224 rfl (Nat.le_of_ble_eq_true rfl) (Nat.le_of_ble_eq_true rfl) ⟨F634470, o634965, rfl, rfl, hT634937, hs634474, (Nat.le_of_ble_eq_true rfl), (Nat.le_of_ble_eq_true rfl), (by omega), (by omega), (by omega)⟩
  by_cases hs634969 : p634412 = 11
  · have ehs634969 : p634412.toInt = 11 := gj_eq hs634969 (show Int32.toInt 11 = 11 by decide)
    have bp634412' : gB p634412 11 11 := ⟨by omega, by omega⟩
    refine G_eqi (y := 11) hs634969 ?_
    refine G_tableIn 225 dr_cX17_count__6 (by decide) (by decide) (by first | rfl | decide) (by decide) ?_
    refine G_aload_n 0 dr_cX17_count__225 rfl ?_
    refine Gp_get 10 hm634416 he634473 dr_cX17_count__226 (gk_X17 D I) (Nat.le_of_ble_eq_true rfl) wr_7_84 rfl ?_
    refine G_if_eq 244 dr_cX17_count__229 (by decide +kernel) (fun hc634970 => ?_) (fun hc634970 => ?_)
    · have r634971 : p634421.toInt = 0 := gj_eq hc634970 (show Int32.toInt 0 = 0 by decide)
      have bp634421' : gB p634421 0 0 := gB_t0 r634971
      refine G_iconst 0 dr_cX17_count__244 (by decide +kernel) ?_
      have hT634972 : RS D I P634409 F634470 γ el := RS_set hT n634472 htq634411 (by decide) ⟨q634418, q634419, p634420, p634421, p634422, p634423, p634424, p634425, p634426, p634427, p634428, p634429, p634430, 0, p634432, p634433, p634434, he634473, ⟨bp634420, (gB_w bp634421' (by decide) (by decide)), (hB634461.2.2.1), (hB634461.2.2.2.1), (hB634461.2.2.2.2.1), (hB634461.2.2.2.2.2.1), (hB634461.2.2.2.2.2.2.1), bp634432, (hB634461.2.2.2.2.2.2.2.2)⟩, ht634435, ht634436, ht634437, ht634438, ht634439, ht634440, ht634441, ht634442, ht634443, ht634444, ht634445, ht634446, ht634447, ht634448, ht634449, ht634450, ht634451, ht634452, ht634453, ht634454, ht634455, ht634456, ht634457, ht634458, hB634462⟩
      have ac634973 : (fI (F634470 q634411) 9).toInt = p634420.toInt := by rw [he634473]; rfl
      have ac634974 : (fI (F634470 q634411) 10).toInt = p634421.toInt := by rw [he634473]; rfl
      have ac634975 : (fI (F634470 q634411) 32).toInt = p634432.toInt := by rw [he634473]; rfl
      exact G_iretA dr_cX17_count__245 rfl (Nat.le_of_ble_eq_true rfl) (Nat.le_of_ble_eq_true rfl) ⟨F634470, 0, rfl, rfl, hT634972, hs634474, (Nat.le_of_ble_eq_true rfl), (Nat.le_of_ble_eq_true rfl), (by have qa0 : Int32.toInt 0 = 0 := (by decide); omega), (by have qa0 : Int32.toInt 0 = 0 := (by decide); omega), (by have qa0 : Int32.toInt 0 = 0 := (by decide); omega)⟩
    · have r634976 : p634421.toInt ≠ 0 := gj_neq hc634970 (show Int32.toInt 0 = 0 by decide)
      have bp634421' : gB p634421 1 1 := gB_t1 bp634421 r634976
      refine G_aload_n 0 dr_cX17_count__232 rfl ?_
      refine Gp_get 7 hm634416 he634473 dr_cX17_count__233 (gk_X17 D I) (Nat.le_of_ble_eq_true rfl) wr_7_81 rfl ?_
      refine G_bipush 23 dr_cX17_count__236 (by decide +kernel) ?_
      have hT634977 : RS D I P634409 F634470 γ el := RS_set hT n634472 htq634411 (by decide) ⟨q634418, q634419, p634420, p634421, p634422, p634423, p634424, p634425, p634426, p634427, p634428, p634429, p634430, 0, p634432, p634433, p634434, he634473, ⟨bp634420, (gB_w bp634421' (by decide) (by decide)), (hB634461.2.2.1), (hB634461.2.2.2.1), (hB634461.2.2.2.2.1), (hB634461.2.2.2.2.2.1), (hB634461.2.2.2.2.2.2.1), bp634432, (hB634461.2.2.2.2.2.2.2.2)⟩, ht634435, ht634436, ht634437, ht634438, ht634439, ht634440, ht634441, ht634442, ht634443, ht634444, ht634445, ht634446, ht634447, ht634448, ht634449, ht634450, ht634451, ht634452, ht634453, ht634454, ht634455, ht634456, ht634457, ht634458, hB634462⟩
      have hm634983 : (γ 9 7) ∈ P634409 := RS_m hT634977 ht634444 (by decide)
      obtain ⟨q634985, q634986, p634987, p634988, he634984, ht635004, ht634989, ht634990, ht634991, ht634992, r634993, r634994, r634995, r634996, r634997, r634998, r634999, r635000, r635001, r635002, r635003⟩ := show rk_9 γ el (γ 9 7) (F634470 (γ 9 7)) from RS_o hT634977 ht634444
      have bp634987 : gB p634987 0 1000000 := ⟨by omega, by omega⟩
      have bp634988 : gB p634988 0 1000000 := ⟨by omega, by omega⟩
      refine Gw_callV (As := [.int 23]) (gV_ok D I) (ct_8586_Code_count l hl0 D I γ el P634409 F634470 (γ 9 7) 23 hT634977 ht634444 (by have qa0 : Int32.toInt 0 = 0 := (by decide); omega)) dr_cX17_count__238 ⟨wr_11_79, wr_1_15, wr_11_82, by decide, rfl, (Nat.le_of_ble_eq_true rfl), (Nat.le_of_ble_eq_true rfl)⟩ wr_11_80 wr_11_81 hm634983 he634984 rfl (show 0 + 0 ≤ 0 by first | omega | decide) (show 0 + 0 ≤ 0 by first | omega | decide) (Nat.le_of_ble_eq_true rfl) (fun r634981 w634982 dc634978 ds634979 hp634980 => ?_) (fun _ _ _ _ _ z => z.elim)
      obtain ⟨o635005, rfl, rfl, hdc, hds⟩ := hp634980
      have bo635005 := gB_any o635005
      change G _ _ _ _ _ _ _ (.int o635005 :: _) _ _ _
      refine G_widen (cs' := 0) (sl' := 0) (by omega) (by omega) ?_
      refine G_goto 245 dr_cX17_count__241 (by decide +kernel) ?_
      have ac635006 : (fI (F634470 q634411) 9).toInt = p634420.toInt := by rw [he634473]; rfl
      have ac635007 : (fI (F634470 q634411) 10).toInt = p634421.toInt := by rw [he634473]; rfl
      have ac635008 : (fI (F634470 q634411) 32).toInt = p634432.toInt := by rw [he634473]; rfl
      exact G_iretA dr_cX17_count__245 rfl (Nat.le_of_ble_eq_true rfl) (Nat.le_of_ble_eq_true rfl) ⟨F634470, o635005, rfl, rfl, hT634977, hs634474, (Nat.le_of_ble_eq_true rfl), (Nat.le_of_ble_eq_true rfl), (by omega), (by omega), (by omega)⟩
  have ehs634475 := lv_neT hs634475 (show Int32.toInt 0 = 0 by decide)
  have ehs634514 := lv_neT hs634514 (show Int32.toInt 1 = 1 by decide)
  have ehs634554 := lv_neT hs634554 (show Int32.toInt 2 = 2 by decide)
  have ehs634559 := lv_neT hs634559 (show Int32.toInt 3 = 3 by decide)
  have ehs634564 := lv_neT hs634564 (show Int32.toInt 4 = 4 by decide)
  have ehs634569 := lv_neT hs634569 (show Int32.toInt 5 = 5 by decide)
  have ehs634609 := lv_neT hs634609 (show Int32.toInt 6 = 6 by decide)
  have ehs634893 := lv_neT hs634893 (show Int32.toInt 7 = 7 by decide)
  have ehs634905 := lv_neT hs634905 (show Int32.toInt 8 = 8 by decide)
  have ehs634917 := lv_neT hs634917 (show Int32.toInt 9 = 9 by decide)
  have ehs634929 := lv_neT hs634929 (show Int32.toInt 10 = 10 by decide)
  have ehs634969 := lv_neT hs634969 (show Int32.toInt 11 = 11 by decide)
  refine G_tableOut 246 dr_cX17_count__6 (by omega) (by decide) ?_
  refine G_aload_n 0 dr_cX17_count__246 rfl ?_
  refine G_iconst 1 dr_cX17_count__247 (by decide +kernel) ?_
  have hT635009 : RS D I P634409 F634470 γ el := RS_set hT n634472 htq634411 (by decide) ⟨q634418, q634419, p634420, p634421, p634422, p634423, p634424, p634425, p634426, p634427, p634428, p634429, p634430, 0, p634432, p634433, p634434, he634473, ⟨bp634420, bp634421, (hB634461.2.2.1), (hB634461.2.2.2.1), (hB634461.2.2.2.2.1), (hB634461.2.2.2.2.2.1), (hB634461.2.2.2.2.2.2.1), bp634432, (hB634461.2.2.2.2.2.2.2.2)⟩, ht634435, ht634436, ht634437, ht634438, ht634439, ht634440, ht634441, ht634442, ht634443, ht634444, ht634445, ht634446, ht634447, ht634448, ht634449, ht634450, ht634451, ht634452, ht634453, ht634454, ht634455, ht634456, ht634457, ht634458, hB634462⟩
  have ac635010 : (fI (F634470 q634411) 9).toInt = p634420.toInt := by rw [he634473]; rfl
  have ac635011 : (fI (F634470 q634411) 10).toInt = p634421.toInt := by rw [he634473]; rfl
  have ac635012 : (fI (F634470 q634411) 32).toInt = p634432.toInt := by rw [he634473]; rfl
  refine Gw_callV (As := [.int 1]) (gV_ok D I) (ct_627106_SpillForgeModel_no l hl0 D I γ el P634409 F634470 q634411 1 hT635009 htq634411) dr_cX17_count__248 ⟨wr_7_191, wr_1_14, wr_7_194, by decide, rfl, (Nat.le_of_ble_eq_true rfl), (Nat.le_of_ble_eq_true rfl)⟩ wr_7_193 wr_p_73 hm634416 he634473 rfl (show 0 + 0 ≤ 0 by first | omega | decide) (show 0 + 0 ≤ 0 by first | omega | decide) (Nat.le_of_ble_eq_true rfl) (fun r635016 w635017 dc635013 ds635014 hp635015 => ?_) (fun _ _ _ _ _ z => z.elim)
  obtain ⟨F635022, rfl, rfl, hT635023, hs635024, hdc, hds, x635018, x635019, x635020, x635021⟩ := hp635015
  have hs635025 : rStr γ [] F634410 F635022 := rStr_tr hs634474 hs635024
  rw [show Int32.toInt 1 = 1 from by decide] at x635021
  change G _ _ _ _ _ _ _ (.int 0 :: _) _ _ _
  refine G_widen (cs' := 0) (sl' := 0) (by omega) (by omega) ?_
  have hm635026 : q634411 ∈ P634409 := RS_m hT635023 htq634411 (by decide)
  refine rk10_e (show rk_10 γ (F635022 q634411) from RS_o hT635023 htq634411) (fun q635028 q635029 p635030 p635031 p635032 p635033 p635034 p635035 p635036 p635037 p635038 p635039 p635040 p635041 p635042 p635043 p635044 he635027 hB635071 ht635045 ht635046 ht635047 ht635048 ht635049 ht635050 ht635051 ht635052 ht635053 ht635054 ht635055 ht635056 ht635057 ht635058 ht635059 ht635060 ht635061 ht635062 ht635063 ht635064 ht635065 ht635066 ht635067 ht635068 hB635072 => ?_)
  have ac635073 : (fI (F635022 q634411) 9).toInt = p635030.toInt := by rw [he635027]; rfl
  have bp635030 : gB p635030 0 1 := (hB635071.1)
  have ac635074 : (fI (F635022 q634411) 10).toInt = p635031.toInt := by rw [he635027]; rfl
  have bp635031 : gB p635031 0 1 := (hB635071.2.1)
  have ac635075 : (fI (F635022 q634411) 32).toInt = p635042.toInt := by rw [he635027]; rfl
  have bp635042 : gB p635042 0 8192 := (hB635071.2.2.2.2.2.2.2.1)
  have ac635076 : (fI (F635022 q634411) 9).toInt = p635030.toInt := by rw [he635027]; rfl
  have ac635077 : (fI (F635022 q634411) 10).toInt = p635031.toInt := by rw [he635027]; rfl
  have ac635078 : (fI (F635022 q634411) 32).toInt = p635042.toInt := by rw [he635027]; rfl
  exact G_iretA dr_cX17_count__251 rfl (Nat.le_of_ble_eq_true rfl) (Nat.le_of_ble_eq_true rfl) ⟨F635022, 0, rfl, rfl, hT635023, hs635025, (Nat.le_of_ble_eq_true rfl), (Nat.le_of_ble_eq_true rfl), (by have qa0 : Int32.toInt 0 = 0 := (by decide); omega), (by have qa0 : Int32.toInt 0 = 0 := (by decide); omega), (by have qa0 : Int32.toInt 0 = 0 := (by decide); omega)⟩
