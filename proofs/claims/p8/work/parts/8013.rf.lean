theorem dr_cX17_give_0 : decode cX17_give 0 = .ok (.aload_n 0, 1) := by decide +kernel
theorem dr_cX17_give_1 : decode cX17_give 1 = .ok (.iconst 0, 1) := by decide +kernel
theorem dr_cX17_give_2 : decode cX17_give 2 = .ok (.putfield 380, 3) := by decide +kernel
theorem dr_cX17_give_5 : decode cX17_give 5 = .ok (.iload_n 1, 1) := by decide +kernel
theorem dr_cX17_give_6 : decode cX17_give 6 = .ok (.iconst 1, 1) := by decide +kernel
theorem dr_cX17_give_7 : decode cX17_give 7 = .ok (.if_icmp .lt 9, 3) := by decide +kernel
theorem dr_cX17_give_16 : decode cX17_give 16 = .ok (.aload_n 0, 1) := by decide +kernel
theorem dr_cX17_give_17 : decode cX17_give 17 = .ok (.iconst 1, 1) := by decide +kernel
theorem dr_cX17_give_18 : decode cX17_give 18 = .ok (.invokevirtual 385, 3) := by decide +kernel
theorem dr_cX17_give_21 : decode cX17_give 21 = .ok (.ireturn, 1) := by decide +kernel
theorem dr_cX17_give_10 : decode cX17_give 10 = .ok (.iload_n 1, 1) := by decide +kernel
theorem dr_cX17_give_11 : decode cX17_give 11 = .ok (.bipush 32, 2) := by decide +kernel
theorem dr_cX17_give_13 : decode cX17_give 13 = .ok (.if_icmp .le 9, 3) := by decide +kernel
theorem dr_cX17_give_22 : decode cX17_give 22 = .ok (.aload_n 0, 1) := by decide +kernel
theorem dr_cX17_give_23 : decode cX17_give 23 = .ok (.getfield 414, 3) := by decide +kernel
theorem dr_cX17_give_26 : decode cX17_give 26 = .ok (.ifCond .ne 9, 3) := by decide +kernel
theorem dr_cX17_give_35 : decode cX17_give 35 = .ok (.aload_n 0, 1) := by decide +kernel
theorem dr_cX17_give_36 : decode cX17_give 36 = .ok (.getfield 365, 3) := by decide +kernel
theorem dr_cX17_give_39 : decode cX17_give 39 = .ok (.aload_n 0, 1) := by decide +kernel
theorem dr_cX17_give_40 : decode cX17_give 40 = .ok (.getfield 361, 3) := by decide +kernel
theorem dr_cX17_give_43 : decode cX17_give 43 = .ok (.invokevirtual 419, 3) := by decide +kernel
theorem dr_cX17_give_46 : decode cX17_give 46 = .ok (.aload_n 0, 1) := by decide +kernel
theorem dr_cX17_give_47 : decode cX17_give 47 = .ok (.aload_n 0, 1) := by decide +kernel
theorem dr_cX17_give_48 : decode cX17_give 48 = .ok (.getfield 365, 3) := by decide +kernel
theorem dr_cX17_give_51 : decode cX17_give 51 = .ok (.iload_n 1, 1) := by decide +kernel
theorem dr_cX17_give_52 : decode cX17_give 52 = .ok (.invokevirtual 422, 3) := by decide +kernel
theorem wr_10_148 : (Jvm.Cond.methodLink "SpillForgeModel" (422 : Nat) ({ cls := "SpillForgeModel", name := "giveAll", desc := "(LSpillForgeModel$Code;I)I" } : Jvm.MethodName)) ∈ gw := gw_10 148 rfl rfl
theorem wr_10_151 : (Jvm.Cond.code ({ cls := "SpillForgeModel", name := "giveAll", desc := "(LSpillForgeModel$Code;I)I" } : Jvm.MethodName) prog_14_method_24_code (8 : Nat) (Option.some Jvm.ClassFile.FieldType.int)) ∈ gw := gw_10 151 rfl rfl
theorem wr_10_150 : (Jvm.Cond.instanceMethod ({ cls := "SpillForgeModel", name := "giveAll", desc := "(LSpillForgeModel$Code;I)I" } : Jvm.MethodName)) ∈ gw := gw_10 150 rfl rfl
theorem wr_p_92 : Cond.selects "SpillForgeModel" ⟨"SpillForgeModel", "giveAll", "(LSpillForgeModel$Code;I)I"⟩ ⟨"SpillForgeModel", "giveAll", "(LSpillForgeModel$Code;I)I"⟩ ∈ gw := gw_p _ 92 rfl rfl rfl
theorem dr_cX17_give_55 : decode cX17_give 55 = .ok (.istore_n 2, 1) := by decide +kernel
theorem dr_cX17_give_56 : decode cX17_give 56 = .ok (.aload_n 0, 1) := by decide +kernel
theorem dr_cX17_give_57 : decode cX17_give 57 = .ok (.iload_n 2, 1) := by decide +kernel
theorem dr_cX17_give_58 : decode cX17_give 58 = .ok (.ifCond .le 7, 3) := by decide +kernel
theorem dr_cX17_give_65 : decode cX17_give 65 = .ok (.iconst 0, 1) := by decide +kernel
theorem dr_cX17_give_66 : decode cX17_give 66 = .ok (.putfield 416, 3) := by decide +kernel
theorem dr_cX17_give_69 : decode cX17_give 69 = .ok (.iload_n 2, 1) := by decide +kernel
theorem dr_cX17_give_70 : decode cX17_give 70 = .ok (.ireturn, 1) := by decide +kernel
theorem dr_cX17_give_61 : decode cX17_give 61 = .ok (.iconst 1, 1) := by decide +kernel
theorem dr_cX17_give_62 : decode cX17_give 62 = .ok (.goto 4, 3) := by decide +kernel
theorem dr_cX17_give_29 : decode cX17_give 29 = .ok (.aload_n 0, 1) := by decide +kernel
theorem dr_cX17_give_30 : decode cX17_give 30 = .ok (.iconst 2, 1) := by decide +kernel
theorem dr_cX17_give_31 : decode cX17_give 31 = .ok (.invokevirtual 385, 3) := by decide +kernel
theorem dr_cX17_give_34 : decode cX17_give 34 = .ok (.ireturn, 1) := by decide +kernel
abbrev ky_657105_SpillForgeModel_give : gKey := (cX17_give, 3, "SpillForgeModel", (some FieldType.int), [], "give", fun _ _ => True)
def pg_657105_SpillForgeModel_give (D : va_G) (I : FieldType → ClassId) (γ0 el0 : Nat → Nat → Nat) (f : Nat) (fo : Nat) (B : Nat) (P657093 : List Nat) (F657094 : Nat → va_E) (q657095 : Nat) (p657096 : Int32) (q657097 : Nat) (q657098 : Nat) : Option Value → va_W → Nat → Nat → Prop := fun r w dc ds => ∃ (P657631 : List Nat) (F657632 : Nat → va_E) (γ el : Nat → Nat → Nat) (o657630 : Int32), r = some (.int o657630) ∧ w = va_pl P657631 F657632 ∧ rSk f [1, 2, 3, 101, 102, 103, 202] ([1, 2, 3, 4, 5, 6, 7, 8, 9, 101, 102, 103, 202] ++ npk) D I P657093 F657094 γ0 el0 P657631 F657632 γ el ∧ (18 * dc + rPh γ0 el0 f ≤ rPh γ el f ∧ ds + rPh γ0 el0 f ≤ rPh γ el f) ∧ rBd γ el f B ∧ gB o657630 (-1) 40 ∧ ((fI (F657632 q657095) 10).toInt = 0 ∨ 0 < γ 6 f) ∧ mKp (F657094 q657095) (F657632 q657095)
set_option maxRecDepth 100000 in
set_option maxHeartbeats 20000000 in
theorem cg_657105_SpillForgeModel_give (l : Launch) (hl0 : l.stackTraces = false) (D : va_G) (I : FieldType → ClassId) (γ0 el0 : Nat → Nat → Nat) (f : Nat) (fo : Nat) (B : Nat) (P657093 : List Nat) (F657094 : Nat → va_E) (q657095 : Nat) (p657096 : Int32) (q657097 : Nat) (q657098 : Nat) (hT0 : RS D I P657093 F657094 γ0 el0) (hzq657095 : rKd γ0 q657095 10) (hzq657097 : rKd γ0 q657097 9) (hzq657098 : rKd γ0 q657098 9) (hvq657097 : γ0 9 7 = q657097) (hvq657098 : γ0 9 6 = q657098) (hf0 : γ0 1 q657097 = f) (hfo0 : γ0 1 q657098 = fo) (hne : fo ≠ f) (hB0 : rBd γ0 el0 f B) (hBk : B ≤ 100000) (x657099 : f = 1) (x657100 : fo = 0) (x657101 : ((fI (F657094 q657095) 9).toInt = 0 ∨ (0 < γ0 6 fo ∧ γ0 16 fo ≤ 160))) (x657102 : γ0 7 fo = 0) (x657103 : 4061 ≤ B) (x657104 : ((fI (F657094 q657095) 10).toInt = 0 ∨ 0 < γ0 6 f)) : CtA (gV D I) l yX17_give cX17_give 3 (some FieldType.int) 11 251 (((387 * B + 6000) - rPh γ0 el0 f) / 18) ((387 * B + 6000) - rPh γ0 el0 f) [.ref q657095, .int p657096] (va_pl P657093 F657094) (pg_657105_SpillForgeModel_give D I γ0 el0 f fo B P657093 F657094 q657095 p657096 q657097 q657098) gNA := by
  refine CtA_of hl0 (by decide) (Nat.le_of_ble_eq_true rfl) ?_
  have bp657096 := gB_any p657096
  obtain ⟨γ, hγ0⟩ : ∃ z, z = γ0 := ⟨_, rfl⟩
  obtain ⟨el, hel0⟩ : ∃ z, z = el0 := ⟨_, rfl⟩
  have hT : RS D I P657093 F657094 γ el := by rw [hγ0, hel0]; exact hT0
  have hst : rSk f [1, 2, 3, 101, 102, 103, 202] ([1, 2, 3, 4, 5, 6, 7, 8, 9, 101, 102, 103, 202] ++ npk) D I P657093 F657094 γ0 el0 P657093 F657094 γ el := by rw [hγ0, hel0]; exact rSk_rf hT0
  have hph : rPh γ0 el0 f ≤ rPh γ el f := by rw [hγ0, hel0]; exact Nat.le_refl _
  have hB : rBd γ el f B := by rw [hγ0, hel0]; exact hB0
  have htq657095 : rKd γ q657095 10 := by rw [hγ0]; exact hzq657095
  have htq657097 : rKd γ q657097 9 := by rw [hγ0]; exact hzq657097
  have htq657098 : rKd γ q657098 9 := by rw [hγ0]; exact hzq657098
  have hf1 : γ 1 q657097 = f := by rw [hγ0]; exact hf0
  have hfo1 : γ 1 q657098 = fo := by rw [hγ0]; exact hfo0
  have x657101n : ((fI (F657094 q657095) 9).toInt = 0 ∨ (0 < γ 6 fo ∧ γ 16 fo ≤ 160)) := by rw [hγ0]; exact x657101
  have x657102n : γ 7 fo = 0 := by rw [hγ0]; exact x657102
  have x657104n : ((fI (F657094 q657095) 10).toInt = 0 ∨ 0 < γ 6 f) := by rw [hγ0]; exact x657104
  have pk657106 : rPh γ el f ≤ 387 * B + 6000 := rm_pk (rM_ge hT htq657097 hf1).1 (rM_bd hB)
  refine G_widen (cs' := ((rPh γ el f - rPh γ0 el0 f) / 18)) (sl' := (rPh γ el f - rPh γ0 el0 f)) (Nat.zero_le _) (Nat.zero_le _) ?_
  have lz0 : Int32.toInt 0 = 0 := by decide
  have r657107 : γ 6 f = γ0 6 f := by rw [hγ0]
  have r657108 : γ 7 f = γ0 7 f := by rw [hγ0]
  have r657109 : γ 16 f = γ0 16 f := by rw [hγ0]
  have r657110 : γ 18 f = γ0 18 f := by rw [hγ0]
  have r657111 : γ 19 f = γ0 19 f := by rw [hγ0]
  have hm657112 : q657095 ∈ P657093 := RS_m hT htq657095 (by decide)
  refine rk10_e (show rk_10 γ (F657094 q657095) from RS_o hT htq657095) (fun q657114 q657115 p657116 p657117 p657118 p657119 p657120 p657121 p657122 p657123 p657124 p657125 p657126 p657127 p657128 p657129 p657130 he657113 hB657157 ht657131 ht657132 ht657133 ht657134 ht657135 ht657136 ht657137 ht657138 ht657139 ht657140 ht657141 ht657142 ht657143 ht657144 ht657145 ht657146 ht657147 ht657148 ht657149 ht657150 ht657151 ht657152 ht657153 ht657154 hB657158 => ?_)
  have ac0_9 : (fI (F657094 q657095) 9).toInt = p657116.toInt := by rw [he657113]; rfl
  have ac0_10 : (fI (F657094 q657095) 10).toInt = p657117.toInt := by rw [he657113]; rfl
  have ac0_32 : (fI (F657094 q657095) 32).toInt = p657128.toInt := by rw [he657113]; rfl
  have r657159 : γ 6 fo = γ0 6 fo := by rw [hγ0]
  have r657160 : γ 7 fo = γ0 7 fo := by rw [hγ0]
  have r657161 : γ 16 fo = γ0 16 fo := by rw [hγ0]
  refine G_aload_n 0 dr_cX17_give_0 rfl ?_
  refine G_iconst 0 dr_cX17_give_1 (by decide +kernel) ?_
  refine Gp_put 30 hm657112 he657113 dr_cX17_give_2 (gk_X17 D I) (Nat.le_of_ble_eq_true rfl) wr_7_104 rfl rfl rfl (Nat.le_of_ble_eq_true rfl) (fun F657162 e657163 n657164 => ?_)
  have he657165 : F657162 q657095 = .inr (22, [.ref (γ 9 0), .ref (γ 9 1), .ref (γ 9 2), .ref (γ 9 3), .ref (γ 9 4), .ref (γ 9 5), .ref (γ 9 6), .ref (γ 9 7), .ref (γ 9 8), .int p657116, .int p657117, .int p657118, .int p657119, .int p657120, .int p657121, .ref (γ 9 15), .ref (γ 9 16), .ref (γ 9 17), .ref (γ 9 18), .ref (γ 9 19), .ref (γ 9 20), .ref (γ 9 21), .ref (γ 9 22), .int p657122, .int p657123, .int p657124, .int p657125, .int p657126, .ref q657114, .ref (γ 9 29), .int 0, .ref (γ 9 31), .int p657128, .int p657129, .int p657130, .ref q657115]) := e657163
  have mk657166 : mKp (F657094 q657095) (F657162 q657095) := mKp_tr mKp_rf (by rw [he657113, he657165]; exact ⟨rfl, rfl⟩)
  have hT657167 : RS D I P657093 F657162 γ el := RS_set hT n657164 htq657095 (by decide) ⟨q657114, q657115, p657116, p657117, p657118, p657119, p657120, p657121, p657122, p657123, p657124, p657125, p657126, 0, p657128, p657129, p657130, he657165, ⟨(hB657157.1), (hB657157.2.1), (hB657157.2.2.1), (hB657157.2.2.2.1), (hB657157.2.2.2.2.1), (hB657157.2.2.2.2.2.1), (hB657157.2.2.2.2.2.2.1), (hB657157.2.2.2.2.2.2.2.1), (hB657157.2.2.2.2.2.2.2.2)⟩, ht657131, ht657132, ht657133, ht657134, ht657135, ht657136, ht657137, ht657138, ht657139, ht657140, ht657141, ht657142, ht657143, ht657144, ht657145, ht657146, ht657147, ht657148, ht657149, ht657150, ht657151, ht657152, ht657153, ht657154, hB657158⟩
  have hs657168 := rSk_put hst hT657167 n657164 htq657095 (by decide) (by decide) (Or.inr (Or.inr (by decide)))
  have ac657169 : (fI (F657162 q657095) 10).toInt = p657117.toInt := by rw [he657165]; rfl
  refine G_iload_n 1 dr_cX17_give_5 rfl ?_
  refine G_iconst 1 dr_cX17_give_6 (by decide +kernel) ?_
  refine G_icmp_lt 16 dr_cX17_give_7 (by decide +kernel) (fun hc657170 => ?_) (fun hc657170 => ?_)
  · have r657171 : p657096.toInt < 1 := gj_lt hc657170 (show Int32.toInt 1 = 1 by decide)
    have bp657096' : gB p657096 (-2147483648) 0 := ⟨by omega, by omega⟩
    refine G_aload_n 0 dr_cX17_give_16 rfl ?_
    refine G_iconst 1 dr_cX17_give_17 (by decide +kernel) ?_
    refine Gw_callV (As := [.int 1]) (gV_ok D I) (ct_589203_SpillForgeModel_no l hl0 D I γ el P657093 F657162 q657095 1 hT657167 htq657095) dr_cX17_give_18 ⟨wr_7_191, wr_1_14, wr_7_194, by decide, rfl, (Nat.le_of_ble_eq_true rfl), (Nat.le_of_ble_eq_true rfl)⟩ wr_7_193 wr_p_73 hm657112 he657165 rfl (rm_zc pk657106) (rm_zs pk657106) (Nat.le_of_ble_eq_true rfl) (fun r657175 w657176 dc657172 ds657173 hp657174 => ?_) (fun _ _ _ _ _ z => z.elim)
    obtain ⟨F657180, rfl, rfl, hT657181, hs657182, hdc, hds, x657177, x657178, ht657179⟩ := hp657174
    have hs657183 := rSk_str hs657168 hT657181 hs657182 (by decide) (by decide) (by decide)
    have mk657184 : mKp (F657094 q657095) (F657180 q657095) := mKp_tr mk657166 x657178
    change G _ _ _ _ _ _ _ (.int 0 :: _) _ _ _
    refine G_widen (cs' := ((rPh γ el f - rPh γ0 el0 f) / 18)) (sl' := (rPh γ el f - rPh γ0 el0 f)) (rm_d0 hdc) (rm_d0 hds) ?_
    have hm657185 : q657095 ∈ P657093 := RS_m hT657181 htq657095 (by decide)
    refine rk10_e (show rk_10 γ (F657180 q657095) from RS_o hT657181 htq657095) (fun q657187 q657188 p657189 p657190 p657191 p657192 p657193 p657194 p657195 p657196 p657197 p657198 p657199 p657200 p657201 p657202 p657203 he657186 hB657230 ht657204 ht657205 ht657206 ht657207 ht657208 ht657209 ht657210 ht657211 ht657212 ht657213 ht657214 ht657215 ht657216 ht657217 ht657218 ht657219 ht657220 ht657221 ht657222 ht657223 ht657224 ht657225 ht657226 ht657227 hB657231 => ?_)
    have ac657232 : (fI (F657180 q657095) 9).toInt = p657189.toInt := by rw [he657186]; rfl
    have ac657233 : (fI (F657180 q657095) 10).toInt = p657190.toInt := by rw [he657186]; rfl
    have ac657234 : (fI (F657180 q657095) 32).toInt = p657201.toInt := by rw [he657186]; rfl
    exact G_iretA dr_cX17_give_21 rfl (show ((rPh γ el f - rPh γ0 el0 f) / 18) ≤ (((387 * B + 6000) - rPh γ0 el0 f) / 18) by omega) (show (rPh γ el f - rPh γ0 el0 f) ≤ ((387 * B + 6000) - rPh γ0 el0 f) by omega) ⟨P657093, F657180, γ, el, 0, rfl, rfl, hs657183, ⟨by omega, by omega⟩, hB, (gB_w (gBl (show Int32.toInt 0 = 0 by decide)) (by decide) (by decide)), (by have qa0 : Int32.toInt 0 = 0 := (by decide); omega), mk657184⟩
  · have r657235 : 1 ≤ p657096.toInt := gj_nlt hc657170 (show Int32.toInt 1 = 1 by decide)
    have bp657096' : gB p657096 1 2147483647 := ⟨by omega, by omega⟩
    refine G_iload_n 1 dr_cX17_give_10 rfl ?_
    refine G_bipush 32 dr_cX17_give_11 (by decide +kernel) ?_
    refine G_icmp_le 22 dr_cX17_give_13 (by decide +kernel) (fun hc657236 => ?_) (fun hc657236 => ?_)
    · have r657237 : p657096.toInt ≤ 32 := gj_le hc657236 (show Int32.toInt 32 = 32 by decide)
      have bp657096'' : gB p657096 1 32 := ⟨by omega, by omega⟩
      refine G_aload_n 0 dr_cX17_give_22 rfl ?_
      refine Gp_get 9 hm657112 he657165 dr_cX17_give_23 (gk_X17 D I) (Nat.le_of_ble_eq_true rfl) wr_7_83 rfl ?_
      have bp657116 : gB p657116 0 1 := (hB657157.1)
      refine G_if_ne 35 dr_cX17_give_26 (by decide +kernel) (fun hc657238 => ?_) (fun hc657238 => ?_)
      · have r657239 : p657116.toInt ≠ 0 := gj_neq hc657238 (show Int32.toInt 0 = 0 by decide)
        have bp657116' : gB p657116 1 1 := gB_t1 bp657116 r657239
        refine G_aload_n 0 dr_cX17_give_35 rfl ?_
        refine Gp_get 7 hm657112 he657165 dr_cX17_give_36 (gk_X17 D I) (Nat.le_of_ble_eq_true rfl) wr_7_81 rfl ?_
        rw [show γ 9 7 = q657097 from (congrFun (rSk_9 hs657168) 7).trans hvq657097]
        refine G_aload_n 0 dr_cX17_give_39 rfl ?_
        refine Gp_get 6 hm657112 he657165 dr_cX17_give_40 (gk_X17 D I) (Nat.le_of_ble_eq_true rfl) wr_7_80 rfl ?_
        rw [show γ 9 6 = q657098 from (congrFun (rSk_9 hs657168) 6).trans hvq657098]
        have rg657240 := rM_ge hT657167 htq657097 hf1
        have rm657241 := rM_bd hB
        have bd657242 := rBd_c hT657167 htq657097 hf1 hB
        have rc657243 := rc_at hT657167 htq657097 hf1
        have hm657249 : q657097 ∈ P657093 := RS_m hT657167 htq657097 (by decide)
        obtain ⟨q657251, q657252, p657253, p657254, he657250, ht657270, ht657255, ht657256, ht657257, ht657258, r657259, r657260, r657261, r657262, r657263, r657264, r657265, r657266, r657267, r657268, r657269⟩ := show rk_9 γ el q657097 (F657162 q657097) from RS_o hT657167 htq657097
        have bp657253 : gB p657253 0 1000000 := ⟨by omega, by omega⟩
        have bp657254 : gB p657254 0 1000000 := ⟨by omega, by omega⟩
        have hf657271 : γ 1 q657251 = f := (show γ 1 q657251 = γ 1 q657097 from ht657256).trans hf1
        have hf657272 : γ 1 q657252 = f := (show γ 1 q657252 = γ 1 q657097 from ht657258).trans hf1
        have r657273 : γ 6 (γ 1 q657097) = γ 6 f := by rw [hf1]
        have r657274 : γ 16 (γ 1 q657097) = γ 16 f := by rw [hf1]
        refine Gw_callV (As := [.ref q657098]) (gV_ok D I) (cg_196630_Code_copy l hl0 D I γ el f fo B P657093 F657162 q657097 q657098 hT657167 htq657097 htq657098 hf1 hfo1 hne hB hBk (by omega) (by omega) (by omega)) dr_cX17_give_43 ⟨wr_10_132, wr_1_15, wr_10_135, by decide, rfl, (Nat.le_of_ble_eq_true rfl), (Nat.le_of_ble_eq_true rfl)⟩ wr_10_133 wr_10_134 hm657249 he657250 rfl (rm_gc hph pk657106) (rm_gs hph pk657106) (Nat.le_of_ble_eq_true rfl) (fun r657247 w657248 dc657244 ds657245 hp657246 => ?_) (fun _ _ _ _ _ z => z.elim)
        obtain ⟨P657280, F657281, γ, el, rfl, rfl, hk657282, ⟨hr657283, hr657284⟩, hB657285, x657275, x657276, x657277, x657278, ht657279⟩ := hp657246
        have hT657286 := hk657282.1
        have hs657287 := rSk_tr hs657168 hk657282 (by decide) (by decide) (by decide)
        have kp657288 : F657281 q657095 = F657162 q657095 := rSk_F hk657282 htq657095 (by decide) (by decide)
        have r657289 := rSk_F hk657282 htq657095 (by decide) (by decide)
        have ht657290 : rKd γ q657095 10 := rSk_k hk657282 htq657095 (by decide) (by decide)
        have ht657291 : rKd γ q657097 9 := rSk_k hk657282 htq657097 (by decide) (by decide)
        have hf657292 : γ 1 q657097 = f := rSk_1 hk657282 htq657097 (by decide) hf1
        have ht657293 : rKd γ q657098 9 := rSk_kf hk657282 htq657098 (by decide) (by rw [hfo1]; exact hne)
        have hf657294 : γ 1 q657098 = fo := rSk_1 hk657282 htq657098 (by decide) hfo1
        have mk657295 : mKp (F657094 q657095) (F657281 q657095) := mKp_tr mk657166 (mKp_eq (rSk_F hk657282 htq657095 (by decide) (by decide)))
        clear r657259 r657260 r657261 r657262 r657263 r657264 r657266 r657267 r657268 r657269 bp657253 bp657254 rg657240 rm657241 bd657242 rc657243
        clear r657265
        have hph657296 : rPh γ0 el0 f ≤ rPh γ el f := rm_ph hph hr657284
        have pk657297 : rPh γ el f ≤ 387 * B + 6000 := rm_pk (rM_ge hT657286 ht657291 hf657292).1 (rM_bd hB657285)
        change G _ _ _ _ _ _ _ _ _ _ _
        refine G_widen (cs' := ((rPh γ el f - rPh γ0 el0 f) / 18)) (sl' := (rPh γ el f - rPh γ0 el0 f)) (rm_wc hph hr657283) (rm_ws hph hr657284) ?_
        have r657298 := rSk_g hs657287 hne
        have r657299 : γ 6 fo = γ0 6 fo := r657298.1
        have r657300 : γ 7 fo = γ0 7 fo := r657298.2.1
        have r657301 : γ 16 fo = γ0 16 fo := r657298.2.2.1
        have r657302 : 0 < γ 6 (γ 1 q657097) := by rw [hf657292]; omega
        refine G_aload_n 0 dr_cX17_give_46 rfl ?_
        refine G_aload_n 0 dr_cX17_give_47 rfl ?_
        have hm657303 : q657095 ∈ P657280 := RS_m hT657286 ht657290 (by decide)
        refine rk10_e (show rk_10 γ (F657281 q657095) from RS_o hT657286 ht657290) (fun q657305 q657306 p657307 p657308 p657309 p657310 p657311 p657312 p657313 p657314 p657315 p657316 p657317 p657318 p657319 p657320 p657321 he657304 hB657348 ht657322 ht657323 ht657324 ht657325 ht657326 ht657327 ht657328 ht657329 ht657330 ht657331 ht657332 ht657333 ht657334 ht657335 ht657336 ht657337 ht657338 ht657339 ht657340 ht657341 ht657342 ht657343 ht657344 ht657345 hB657349 => ?_)
        refine Gp_get 7 hm657303 he657304 dr_cX17_give_48 (gk_X17 D I) (Nat.le_of_ble_eq_true rfl) wr_7_81 rfl ?_
        rw [show γ 9 7 = q657097 from (congrFun (rSk_9 hs657287) 7).trans hvq657097]
        refine G_iload_n 1 dr_cX17_give_51 rfl ?_
        have rg657350 := rM_ge hT657286 ht657291 hf657292
        have rm657351 := rM_bd hB657285
        have bd657352 := rBd_c hT657286 ht657291 hf657292 hB657285
        have rc657353 := rc_at hT657286 ht657291 hf657292
        refine Gw_callV (As := [.ref q657097, .int p657096]) (gV_ok D I) (cg_631611_SpillForgeModel_giveAll l hl0 D I γ el f B P657280 F657281 q657095 q657097 p657096 hT657286 ht657290 ht657291 hf657292 hB657285 hBk bp657096'' (by omega) (by omega) (by omega)) dr_cX17_give_52 ⟨wr_10_148, wr_1_14, wr_10_151, by decide, rfl, (Nat.le_of_ble_eq_true rfl), (Nat.le_of_ble_eq_true rfl)⟩ wr_10_150 wr_p_92 hm657303 he657304 rfl (rm_gc hph657296 pk657297) (rm_gs hph657296 pk657297) (Nat.le_of_ble_eq_true rfl) (fun r657357 w657358 dc657354 ds657355 hp657356 => ?_) (fun _ _ _ _ _ z => z.elim)
        obtain ⟨P657362, F657363, γ, el, o657359, rfl, rfl, hk657364, ⟨hr657365, hr657366⟩, hB657367, bo657359, x657360, x657361⟩ := hp657356
        have hT657368 := hk657364.1
        have hs657369 := rSk_tr hs657287 hk657364 (by decide) (by decide) (by decide)
        have ht657370 : rKd γ q657095 10 := rSk_k hk657364 ht657290 (by decide) (by decide)
        have ht657371 : rKd γ q657097 9 := rSk_k hk657364 ht657291 (by decide) (by decide)
        have hf657372 : γ 1 q657097 = f := rSk_1 hk657364 ht657291 (by decide) hf657292
        have ht657373 : rKd γ q657098 9 := rSk_kf hk657364 ht657293 (by decide) (by rw [hf657294]; exact hne)
        have hf657374 : γ 1 q657098 = fo := rSk_1 hk657364 ht657293 (by decide) hf657294
        clear rg657350 rm657351 bd657352 rc657353
        have mk657375 : mKp (F657094 q657095) (F657363 q657095) := mKp_tr mk657295 x657361
        have hph657376 : rPh γ0 el0 f ≤ rPh γ el f := rm_ph hph657296 hr657366
        have pk657377 : rPh γ el f ≤ 387 * B + 6000 := rm_pk (rM_ge hT657368 ht657371 hf657372).1 (rM_bd hB657367)
        change G _ _ _ _ _ _ _ (.int o657359 :: _) _ _ _
        refine G_widen (cs' := ((rPh γ el f - rPh γ0 el0 f) / 18)) (sl' := (rPh γ el f - rPh γ0 el0 f)) (rm_wc hph657296 hr657365) (rm_ws hph657296 hr657366) ?_
        have r657378 := rSk_g hs657369 hne
        have r657379 : γ 6 fo = γ0 6 fo := r657378.1
        have r657380 : γ 7 fo = γ0 7 fo := r657378.2.1
        have r657381 : γ 16 fo = γ0 16 fo := r657378.2.2.1
        have r657382 : 0 < γ 6 (γ 1 q657097) := by rw [hf657372]; omega
        refine G_istore_n (L' := [(2, .int o657359), (0, .ref q657095), (1, .int p657096)]) dr_cX17_give_55 (Nat.le_of_ble_eq_true rfl) rfl ?_
        refine G_aload_n 1 dr_cX17_give_56 rfl ?_
        refine G_iload_n 0 dr_cX17_give_57 rfl ?_
        refine G_if_le 65 dr_cX17_give_58 (by decide +kernel) (fun hc657383 => ?_) (fun hc657383 => ?_)
        · have r657384 : o657359.toInt ≤ 0 := gj_le hc657383 (show Int32.toInt 0 = 0 by decide)
          have bo657359' : gB o657359 (-1) 0 := ⟨by omega, by omega⟩
          refine G_iconst 0 dr_cX17_give_65 (by decide +kernel) ?_
          have hm657385 : q657095 ∈ P657362 := RS_m hT657368 ht657370 (by decide)
          refine rk10_e (show rk_10 γ (F657363 q657095) from RS_o hT657368 ht657370) (fun q657387 q657388 p657389 p657390 p657391 p657392 p657393 p657394 p657395 p657396 p657397 p657398 p657399 p657400 p657401 p657402 p657403 he657386 hB657430 ht657404 ht657405 ht657406 ht657407 ht657408 ht657409 ht657410 ht657411 ht657412 ht657413 ht657414 ht657415 ht657416 ht657417 ht657418 ht657419 ht657420 ht657421 ht657422 ht657423 ht657424 ht657425 ht657426 ht657427 hB657431 => ?_)
          refine Gp_put 10 hm657385 he657386 dr_cX17_give_66 (gk_X17 D I) (Nat.le_of_ble_eq_true rfl) wr_7_84 rfl rfl rfl (Nat.le_of_ble_eq_true rfl) (fun F657432 e657433 n657434 => ?_)
          have he657435 : F657432 q657095 = .inr (22, [.ref (γ 9 0), .ref (γ 9 1), .ref (γ 9 2), .ref (γ 9 3), .ref (γ 9 4), .ref (γ 9 5), .ref (γ 9 6), .ref (γ 9 7), .ref (γ 9 8), .int p657389, .int 0, .int p657391, .int p657392, .int p657393, .int p657394, .ref (γ 9 15), .ref (γ 9 16), .ref (γ 9 17), .ref (γ 9 18), .ref (γ 9 19), .ref (γ 9 20), .ref (γ 9 21), .ref (γ 9 22), .int p657395, .int p657396, .int p657397, .int p657398, .int p657399, .ref q657387, .ref (γ 9 29), .int p657400, .ref (γ 9 31), .int p657401, .int p657402, .int p657403, .ref q657388]) := e657433
          have mk657436 : mKp (F657094 q657095) (F657432 q657095) := mKp_tr mk657375 (by rw [he657386, he657435]; exact ⟨rfl, rfl⟩)
          refine G_iload_n 0 dr_cX17_give_69 rfl ?_
          have hT657437 : RS D I P657362 F657432 γ el := RS_set hT657368 n657434 ht657370 (by decide) ⟨q657387, q657388, p657389, 0, p657391, p657392, p657393, p657394, p657395, p657396, p657397, p657398, p657399, p657400, p657401, p657402, p657403, he657435, ⟨(hB657430.1), (gB_w (gBl (show Int32.toInt 0 = 0 by decide)) (by decide) (by decide)), (hB657430.2.2.1), (hB657430.2.2.2.1), (hB657430.2.2.2.2.1), (hB657430.2.2.2.2.2.1), (hB657430.2.2.2.2.2.2.1), (hB657430.2.2.2.2.2.2.2.1), (hB657430.2.2.2.2.2.2.2.2)⟩, ht657404, ht657405, ht657406, ht657407, ht657408, ht657409, ht657410, ht657411, ht657412, ht657413, ht657414, ht657415, ht657416, ht657417, ht657418, ht657419, ht657420, ht657421, ht657422, ht657423, ht657424, ht657425, ht657426, ht657427, ⟨(show (_ ∨ _ ∨ _) ∧ (_ ∨ _ ∨ _) ∧ _ from hB657431).1, Or.inr (Or.inl (by have z : 0 < γ 6 f := (by omega); rw [x657099] at z; exact z)), (show (_ ∨ _ ∨ _) ∧ (_ ∨ _ ∨ _) ∧ _ from hB657431).2.2⟩⟩
          have hs657438 := rSk_put hs657369 hT657437 n657434 ht657370 (by decide) (by decide) (Or.inr (Or.inr (by decide)))
          have ac657439 : (fI (F657432 q657095) 9).toInt = p657389.toInt := by rw [he657435]; rfl
          have ac657440 : (fI (F657432 q657095) 10).toInt = 0 := by rw [he657435]; show Int32.toInt 0 = 0; decide
          have ac657441 : (fI (F657432 q657095) 32).toInt = p657401.toInt := by rw [he657435]; rfl
          have mq657442 : mKp _ _ := mk657375
          exact G_iretA dr_cX17_give_70 rfl (show ((rPh γ el f - rPh γ0 el0 f) / 18) ≤ (((387 * B + 6000) - rPh γ0 el0 f) / 18) by omega) (show (rPh γ el f - rPh γ0 el0 f) ≤ ((387 * B + 6000) - rPh γ0 el0 f) by omega) ⟨P657362, F657432, γ, el, o657359, rfl, rfl, hs657438, ⟨by omega, by omega⟩, hB657367, (gB_w bo657359' (by decide) (by decide)), (by omega), mk657436⟩
        · have r657443 : 0 < o657359.toInt := gj_nle hc657383 (show Int32.toInt 0 = 0 by decide)
          have bo657359' : gB o657359 1 40 := ⟨by omega, by omega⟩
          refine G_iconst 1 dr_cX17_give_61 (by decide +kernel) ?_
          refine G_goto 66 dr_cX17_give_62 (by decide +kernel) ?_
          have hm657444 : q657095 ∈ P657362 := RS_m hT657368 ht657370 (by decide)
          refine rk10_e (show rk_10 γ (F657363 q657095) from RS_o hT657368 ht657370) (fun q657446 q657447 p657448 p657449 p657450 p657451 p657452 p657453 p657454 p657455 p657456 p657457 p657458 p657459 p657460 p657461 p657462 he657445 hB657489 ht657463 ht657464 ht657465 ht657466 ht657467 ht657468 ht657469 ht657470 ht657471 ht657472 ht657473 ht657474 ht657475 ht657476 ht657477 ht657478 ht657479 ht657480 ht657481 ht657482 ht657483 ht657484 ht657485 ht657486 hB657490 => ?_)
          refine Gp_put 10 hm657444 he657445 dr_cX17_give_66 (gk_X17 D I) (Nat.le_of_ble_eq_true rfl) wr_7_84 rfl rfl rfl (Nat.le_of_ble_eq_true rfl) (fun F657491 e657492 n657493 => ?_)
          have he657494 : F657491 q657095 = .inr (22, [.ref (γ 9 0), .ref (γ 9 1), .ref (γ 9 2), .ref (γ 9 3), .ref (γ 9 4), .ref (γ 9 5), .ref (γ 9 6), .ref (γ 9 7), .ref (γ 9 8), .int p657448, .int 1, .int p657450, .int p657451, .int p657452, .int p657453, .ref (γ 9 15), .ref (γ 9 16), .ref (γ 9 17), .ref (γ 9 18), .ref (γ 9 19), .ref (γ 9 20), .ref (γ 9 21), .ref (γ 9 22), .int p657454, .int p657455, .int p657456, .int p657457, .int p657458, .ref q657446, .ref (γ 9 29), .int p657459, .ref (γ 9 31), .int p657460, .int p657461, .int p657462, .ref q657447]) := e657492
          have mk657495 : mKp (F657094 q657095) (F657491 q657095) := mKp_tr mk657375 (by rw [he657445, he657494]; exact ⟨rfl, rfl⟩)
          refine G_iload_n 0 dr_cX17_give_69 rfl ?_
          have hT657496 : RS D I P657362 F657491 γ el := RS_set hT657368 n657493 ht657370 (by decide) ⟨q657446, q657447, p657448, 1, p657450, p657451, p657452, p657453, p657454, p657455, p657456, p657457, p657458, p657459, p657460, p657461, p657462, he657494, ⟨(hB657489.1), (gB_w (gBl (show Int32.toInt 1 = 1 by decide)) (by decide) (by decide)), (hB657489.2.2.1), (hB657489.2.2.2.1), (hB657489.2.2.2.2.1), (hB657489.2.2.2.2.2.1), (hB657489.2.2.2.2.2.2.1), (hB657489.2.2.2.2.2.2.2.1), (hB657489.2.2.2.2.2.2.2.2)⟩, ht657463, ht657464, ht657465, ht657466, ht657467, ht657468, ht657469, ht657470, ht657471, ht657472, ht657473, ht657474, ht657475, ht657476, ht657477, ht657478, ht657479, ht657480, ht657481, ht657482, ht657483, ht657484, ht657485, ht657486, ⟨(show (_ ∨ _ ∨ _) ∧ (_ ∨ _ ∨ _) ∧ _ from hB657490).1, Or.inr (Or.inl (by have z : 0 < γ 6 f := (by omega); rw [x657099] at z; exact z)), (show (_ ∨ _ ∨ _) ∧ (_ ∨ _ ∨ _) ∧ _ from hB657490).2.2⟩⟩
          have hs657497 := rSk_put hs657369 hT657496 n657493 ht657370 (by decide) (by decide) (Or.inr (Or.inr (by decide)))
          have ac657498 : (fI (F657491 q657095) 9).toInt = p657448.toInt := by rw [he657494]; rfl
          have ac657499 : (fI (F657491 q657095) 10).toInt = 1 := by rw [he657494]; show Int32.toInt 1 = 1; decide
          have ac657500 : (fI (F657491 q657095) 32).toInt = p657460.toInt := by rw [he657494]; rfl
          have mq657501 : mKp _ _ := mk657375
          exact G_iretA dr_cX17_give_70 rfl (show ((rPh γ el f - rPh γ0 el0 f) / 18) ≤ (((387 * B + 6000) - rPh γ0 el0 f) / 18) by omega) (show (rPh γ el f - rPh γ0 el0 f) ≤ ((387 * B + 6000) - rPh γ0 el0 f) by omega) ⟨P657362, F657491, γ, el, o657359, rfl, rfl, hs657497, ⟨by omega, by omega⟩, hB657367, (gB_w bo657359' (by decide) (by decide)), (by omega), mk657495⟩
      · have r657502 : p657116.toInt = 0 := gj_eq hc657238 (show Int32.toInt 0 = 0 by decide)
        have bp657116' : gB p657116 0 0 := gB_t0 r657502
        refine G_aload_n 0 dr_cX17_give_29 rfl ?_
        refine G_iconst 2 dr_cX17_give_30 (by decide +kernel) ?_
        refine Gw_callV (As := [.int 2]) (gV_ok D I) (ct_589203_SpillForgeModel_no l hl0 D I γ el P657093 F657162 q657095 2 hT657167 htq657095) dr_cX17_give_31 ⟨wr_7_191, wr_1_14, wr_7_194, by decide, rfl, (Nat.le_of_ble_eq_true rfl), (Nat.le_of_ble_eq_true rfl)⟩ wr_7_193 wr_p_73 hm657112 he657165 rfl (rm_zc pk657106) (rm_zs pk657106) (Nat.le_of_ble_eq_true rfl) (fun r657506 w657507 dc657503 ds657504 hp657505 => ?_) (fun _ _ _ _ _ z => z.elim)
        obtain ⟨F657511, rfl, rfl, hT657512, hs657513, hdc, hds, x657508, x657509, ht657510⟩ := hp657505
        have hs657514 := rSk_str hs657168 hT657512 hs657513 (by decide) (by decide) (by decide)
        have mk657515 : mKp (F657094 q657095) (F657511 q657095) := mKp_tr mk657166 x657509
        change G _ _ _ _ _ _ _ (.int 0 :: _) _ _ _
        refine G_widen (cs' := ((rPh γ el f - rPh γ0 el0 f) / 18)) (sl' := (rPh γ el f - rPh γ0 el0 f)) (rm_d0 hdc) (rm_d0 hds) ?_
        have hm657516 : q657095 ∈ P657093 := RS_m hT657512 htq657095 (by decide)
        refine rk10_e (show rk_10 γ (F657511 q657095) from RS_o hT657512 htq657095) (fun q657518 q657519 p657520 p657521 p657522 p657523 p657524 p657525 p657526 p657527 p657528 p657529 p657530 p657531 p657532 p657533 p657534 he657517 hB657561 ht657535 ht657536 ht657537 ht657538 ht657539 ht657540 ht657541 ht657542 ht657543 ht657544 ht657545 ht657546 ht657547 ht657548 ht657549 ht657550 ht657551 ht657552 ht657553 ht657554 ht657555 ht657556 ht657557 ht657558 hB657562 => ?_)
        have ac657563 : (fI (F657511 q657095) 9).toInt = p657520.toInt := by rw [he657517]; rfl
        have ac657564 : (fI (F657511 q657095) 10).toInt = p657521.toInt := by rw [he657517]; rfl
        have ac657565 : (fI (F657511 q657095) 32).toInt = p657532.toInt := by rw [he657517]; rfl
        exact G_iretA dr_cX17_give_34 rfl (show ((rPh γ el f - rPh γ0 el0 f) / 18) ≤ (((387 * B + 6000) - rPh γ0 el0 f) / 18) by omega) (show (rPh γ el f - rPh γ0 el0 f) ≤ ((387 * B + 6000) - rPh γ0 el0 f) by omega) ⟨P657093, F657511, γ, el, 0, rfl, rfl, hs657514, ⟨by omega, by omega⟩, hB, (gB_w (gBl (show Int32.toInt 0 = 0 by decide)) (by decide) (by decide)), (by have qa0 : Int32.toInt 0 = 0 := (by decide); omega), mk657515⟩
    · have r657566 : 32 < p657096.toInt := gj_nle hc657236 (show Int32.toInt 32 = 32 by decide)
      have bp657096'' : gB p657096 33 2147483647 := ⟨by omega, by omega⟩
      refine G_aload_n 0 dr_cX17_give_16 rfl ?_
      refine G_iconst 1 dr_cX17_give_17 (by decide +kernel) ?_
      refine Gw_callV (As := [.int 1]) (gV_ok D I) (ct_589203_SpillForgeModel_no l hl0 D I γ el P657093 F657162 q657095 1 hT657167 htq657095) dr_cX17_give_18 ⟨wr_7_191, wr_1_14, wr_7_194, by decide, rfl, (Nat.le_of_ble_eq_true rfl), (Nat.le_of_ble_eq_true rfl)⟩ wr_7_193 wr_p_73 hm657112 he657165 rfl (rm_zc pk657106) (rm_zs pk657106) (Nat.le_of_ble_eq_true rfl) (fun r657570 w657571 dc657567 ds657568 hp657569 => ?_) (fun _ _ _ _ _ z => z.elim)
      obtain ⟨F657575, rfl, rfl, hT657576, hs657577, hdc, hds, x657572, x657573, ht657574⟩ := hp657569
      have hs657578 := rSk_str hs657168 hT657576 hs657577 (by decide) (by decide) (by decide)
      have mk657579 : mKp (F657094 q657095) (F657575 q657095) := mKp_tr mk657166 x657573
      change G _ _ _ _ _ _ _ (.int 0 :: _) _ _ _
      refine G_widen (cs' := ((rPh γ el f - rPh γ0 el0 f) / 18)) (sl' := (rPh γ el f - rPh γ0 el0 f)) (rm_d0 hdc) (rm_d0 hds) ?_
      have hm657580 : q657095 ∈ P657093 := RS_m hT657576 htq657095 (by decide)
      refine rk10_e (show rk_10 γ (F657575 q657095) from RS_o hT657576 htq657095) (fun q657582 q657583 p657584 p657585 p657586 p657587 p657588 p657589 p657590 p657591 p657592 p657593 p657594 p657595 p657596 p657597 p657598 he657581 hB657625 ht657599 ht657600 ht657601 ht657602 ht657603 ht657604 ht657605 ht657606 ht657607 ht657608 ht657609 ht657610 ht657611 ht657612 ht657613 ht657614 ht657615 ht657616 ht657617 ht657618 ht657619 ht657620 ht657621 ht657622 hB657626 => ?_)
      have ac657627 : (fI (F657575 q657095) 9).toInt = p657584.toInt := by rw [he657581]; rfl
      have ac657628 : (fI (F657575 q657095) 10).toInt = p657585.toInt := by rw [he657581]; rfl
      have ac657629 : (fI (F657575 q657095) 32).toInt = p657596.toInt := by rw [he657581]; rfl
      exact G_iretA dr_cX17_give_21 rfl (show ((rPh γ el f - rPh γ0 el0 f) / 18) ≤ (((387 * B + 6000) - rPh γ0 el0 f) / 18) by omega) (show (rPh γ el f - rPh γ0 el0 f) ≤ ((387 * B + 6000) - rPh γ0 el0 f) by omega) ⟨P657093, F657575, γ, el, 0, rfl, rfl, hs657578, ⟨by omega, by omega⟩, hB, (gB_w (gBl (show Int32.toInt 0 = 0 by decide)) (by decide) (by decide)), (by have qa0 : Int32.toInt 0 = 0 := (by decide); omega), mk657579⟩
