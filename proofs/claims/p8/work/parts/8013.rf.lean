theorem dr_cX17_give_0 : decode cX17_give 0 = .ok (.aload_n 0, 1) := by decide +kernel
theorem dr_cX17_give_1 : decode cX17_give 1 = .ok (.iconst 0, 1) := by decide +kernel
theorem dr_cX17_give_2 : decode cX17_give 2 = .ok (.putfield 380, 3) := by decide +kernel
theorem dr_cX17_give_5 : decode cX17_give 5 = .ok (.iload_n 1, 1) := by decide +kernel
theorem dr_cX17_give_6 : decode cX17_give 6 = .ok (.iconst 1, 1) := by decide +kernel
theorem dr_cX17_give_7 : decode cX17_give 7 = .ok (.if_icmp .lt 9, 3) := by decide +kernel
theorem dr_cX17_give_16 : decode cX17_give 16 = .ok (.aload_n 0, 1) := by decide +kernel
theorem dr_cX17_give_17 : decode cX17_give 17 = .ok (.iconst 1, 1) := by decide +kernel
theorem dr_cX17_give_18 : decode cX17_give 18 = .ok (.invokevirtual 385, 3) := by decide +kernel
theorem dr_cX17_give_21 : decode cX17_give 21 = .ok (.ireturn, 1) := by decide +kernel
theorem dr_cX17_give_10 : decode cX17_give 10 = .ok (.iload_n 1, 1) := by decide +kernel
theorem dr_cX17_give_11 : decode cX17_give 11 = .ok (.bipush 32, 2) := by decide +kernel
theorem dr_cX17_give_13 : decode cX17_give 13 = .ok (.if_icmp .le 9, 3) := by decide +kernel
theorem dr_cX17_give_22 : decode cX17_give 22 = .ok (.aload_n 0, 1) := by decide +kernel
theorem dr_cX17_give_23 : decode cX17_give 23 = .ok (.getfield 414, 3) := by decide +kernel
theorem dr_cX17_give_26 : decode cX17_give 26 = .ok (.ifCond .ne 9, 3) := by decide +kernel
theorem dr_cX17_give_35 : decode cX17_give 35 = .ok (.aload_n 0, 1) := by decide +kernel
theorem dr_cX17_give_36 : decode cX17_give 36 = .ok (.getfield 365, 3) := by decide +kernel
theorem dr_cX17_give_39 : decode cX17_give 39 = .ok (.aload_n 0, 1) := by decide +kernel
theorem dr_cX17_give_40 : decode cX17_give 40 = .ok (.getfield 361, 3) := by decide +kernel
theorem dr_cX17_give_43 : decode cX17_give 43 = .ok (.invokevirtual 419, 3) := by decide +kernel
theorem dr_cX17_give_46 : decode cX17_give 46 = .ok (.aload_n 0, 1) := by decide +kernel
theorem dr_cX17_give_47 : decode cX17_give 47 = .ok (.aload_n 0, 1) := by decide +kernel
theorem dr_cX17_give_48 : decode cX17_give 48 = .ok (.getfield 365, 3) := by decide +kernel
theorem dr_cX17_give_51 : decode cX17_give 51 = .ok (.iload_n 1, 1) := by decide +kernel
theorem dr_cX17_give_52 : decode cX17_give 52 = .ok (.invokevirtual 422, 3) := by decide +kernel
theorem wr_10_148 : (Jvm.Cond.methodLink "SpillForgeModel" (422 : Nat) ({ cls := "SpillForgeModel", name := "giveAll", desc := "(LSpillForgeModel$Code;I)I" } : Jvm.MethodName)) ∈ gw := gw_10 148 rfl rfl
theorem wr_10_151 : (Jvm.Cond.code ({ cls := "SpillForgeModel", name := "giveAll", desc := "(LSpillForgeModel$Code;I)I" } : Jvm.MethodName) prog_14_method_24_code (8 : Nat) (Option.some Jvm.ClassFile.FieldType.int)) ∈ gw := gw_10 151 rfl rfl
theorem wr_10_150 : (Jvm.Cond.instanceMethod ({ cls := "SpillForgeModel", name := "giveAll", desc := "(LSpillForgeModel$Code;I)I" } : Jvm.MethodName)) ∈ gw := gw_10 150 rfl rfl
theorem wr_p_92 : Cond.selects "SpillForgeModel" ⟨"SpillForgeModel", "giveAll", "(LSpillForgeModel$Code;I)I"⟩ ⟨"SpillForgeModel", "giveAll", "(LSpillForgeModel$Code;I)I"⟩ ∈ gw := gw_p _ 92 rfl rfl rfl
theorem dr_cX17_give_55 : decode cX17_give 55 = .ok (.istore_n 2, 1) := by decide +kernel
theorem dr_cX17_give_56 : decode cX17_give 56 = .ok (.aload_n 0, 1) := by decide +kernel
theorem dr_cX17_give_57 : decode cX17_give 57 = .ok (.iload_n 2, 1) := by decide +kernel
theorem dr_cX17_give_58 : decode cX17_give 58 = .ok (.ifCond .le 7, 3) := by decide +kernel
theorem dr_cX17_give_65 : decode cX17_give 65 = .ok (.iconst 0, 1) := by decide +kernel
theorem dr_cX17_give_66 : decode cX17_give 66 = .ok (.putfield 416, 3) := by decide +kernel
theorem dr_cX17_give_69 : decode cX17_give 69 = .ok (.iload_n 2, 1) := by decide +kernel
theorem dr_cX17_give_70 : decode cX17_give 70 = .ok (.ireturn, 1) := by decide +kernel
theorem dr_cX17_give_61 : decode cX17_give 61 = .ok (.iconst 1, 1) := by decide +kernel
theorem dr_cX17_give_62 : decode cX17_give 62 = .ok (.goto 4, 3) := by decide +kernel
theorem dr_cX17_give_29 : decode cX17_give 29 = .ok (.aload_n 0, 1) := by decide +kernel
theorem dr_cX17_give_30 : decode cX17_give 30 = .ok (.iconst 2, 1) := by decide +kernel
theorem dr_cX17_give_31 : decode cX17_give 31 = .ok (.invokevirtual 385, 3) := by decide +kernel
theorem dr_cX17_give_34 : decode cX17_give 34 = .ok (.ireturn, 1) := by decide +kernel
abbrev ky_655131_SpillForgeModel_give : gKey := (cX17_give, 3, "SpillForgeModel", (some FieldType.int), [], "give", fun _ _ => True)
def pg_655131_SpillForgeModel_give (D : va_G) (I : FieldType → ClassId) (γ0 el0 : Nat → Nat → Nat) (f : Nat) (fo : Nat) (B : Nat) (P655119 : List Nat) (F655120 : Nat → va_E) (q655121 : Nat) (p655122 : Int32) (q655123 : Nat) (q655124 : Nat) : Option Value → va_W → Nat → Nat → Prop := fun r w dc ds => ∃ (P655657 : List Nat) (F655658 : Nat → va_E) (γ el : Nat → Nat → Nat) (o655656 : Int32), r = some (.int o655656) ∧ w = va_pl P655657 F655658 ∧ rSk f [1, 2, 3, 101, 102, 103, 202] ([1, 2, 3, 4, 5, 6, 7, 8, 9, 101, 102, 103, 202] ++ npk) D I P655119 F655120 γ0 el0 P655657 F655658 γ el ∧ (18 * dc + rPh γ0 el0 f ≤ rPh γ el f ∧ ds + rPh γ0 el0 f ≤ rPh γ el f) ∧ rBd γ el f B ∧ gB o655656 (-1) 40 ∧ ((fI (F655658 q655121) 10).toInt = 0 ∨ 0 < γ 6 f) ∧ mKp (F655120 q655121) (F655658 q655121)
set_option maxRecDepth 100000 in
set_option maxHeartbeats 20000000 in
theorem cg_655131_SpillForgeModel_give (l : Launch) (hl0 : l.stackTraces = false) (D : va_G) (I : FieldType → ClassId) (γ0 el0 : Nat → Nat → Nat) (f : Nat) (fo : Nat) (B : Nat) (P655119 : List Nat) (F655120 : Nat → va_E) (q655121 : Nat) (p655122 : Int32) (q655123 : Nat) (q655124 : Nat) (hT0 : RS D I P655119 F655120 γ0 el0) (hzq655121 : rKd γ0 q655121 10) (hzq655123 : rKd γ0 q655123 9) (hzq655124 : rKd γ0 q655124 9) (hvq655123 : γ0 9 7 = q655123) (hvq655124 : γ0 9 6 = q655124) (hf0 : γ0 1 q655123 = f) (hfo0 : γ0 1 q655124 = fo) (hne : fo ≠ f) (hB0 : rBd γ0 el0 f B) (hBk : B ≤ 100000) (x655125 : f = 1) (x655126 : fo = 0) (x655127 : ((fI (F655120 q655121) 9).toInt = 0 ∨ (0 < γ0 6 fo ∧ γ0 16 fo ≤ 160))) (x655128 : γ0 7 fo = 0) (x655129 : 4061 ≤ B) (x655130 : ((fI (F655120 q655121) 10).toInt = 0 ∨ 0 < γ0 6 f)) : CtA (gV D I) l yX17_give cX17_give 3 (some FieldType.int) 11 251 (((387 * B + 6000) - rPh γ0 el0 f) / 18) ((387 * B + 6000) - rPh γ0 el0 f) [.ref q655121, .int p655122] (va_pl P655119 F655120) (pg_655131_SpillForgeModel_give D I γ0 el0 f fo B P655119 F655120 q655121 p655122 q655123 q655124) gNA := by
  refine CtA_of hl0 (by decide) (Nat.le_of_ble_eq_true rfl) ?_
  have bp655122 := gB_any p655122
  obtain ⟨γ, hγ0⟩ : ∃ z, z = γ0 := ⟨_, rfl⟩
  obtain ⟨el, hel0⟩ : ∃ z, z = el0 := ⟨_, rfl⟩
  have hT : RS D I P655119 F655120 γ el := by rw [hγ0, hel0]; exact hT0
  have hst : rSk f [1, 2, 3, 101, 102, 103, 202] ([1, 2, 3, 4, 5, 6, 7, 8, 9, 101, 102, 103, 202] ++ npk) D I P655119 F655120 γ0 el0 P655119 F655120 γ el := by rw [hγ0, hel0]; exact rSk_rf hT0
  have hph : rPh γ0 el0 f ≤ rPh γ el f := by rw [hγ0, hel0]; exact Nat.le_refl _
  have hB : rBd γ el f B := by rw [hγ0, hel0]; exact hB0
  have htq655121 : rKd γ q655121 10 := by rw [hγ0]; exact hzq655121
  have htq655123 : rKd γ q655123 9 := by rw [hγ0]; exact hzq655123
  have htq655124 : rKd γ q655124 9 := by rw [hγ0]; exact hzq655124
  have hf1 : γ 1 q655123 = f := by rw [hγ0]; exact hf0
  have hfo1 : γ 1 q655124 = fo := by rw [hγ0]; exact hfo0
  have x655127n : ((fI (F655120 q655121) 9).toInt = 0 ∨ (0 < γ 6 fo ∧ γ 16 fo ≤ 160)) := by rw [hγ0]; exact x655127
  have x655128n : γ 7 fo = 0 := by rw [hγ0]; exact x655128
  have x655130n : ((fI (F655120 q655121) 10).toInt = 0 ∨ 0 < γ 6 f) := by rw [hγ0]; exact x655130
  have pk655132 : rPh γ el f ≤ 387 * B + 6000 := rm_pk (rM_ge hT htq655123 hf1).1 (rM_bd hB)
  refine G_widen (cs' := ((rPh γ el f - rPh γ0 el0 f) / 18)) (sl' := (rPh γ el f - rPh γ0 el0 f)) (Nat.zero_le _) (Nat.zero_le _) ?_
  have lz0 : Int32.toInt 0 = 0 := by decide
  have r655133 : γ 6 f = γ0 6 f := by rw [hγ0]
  have r655134 : γ 7 f = γ0 7 f := by rw [hγ0]
  have r655135 : γ 16 f = γ0 16 f := by rw [hγ0]
  have r655136 : γ 18 f = γ0 18 f := by rw [hγ0]
  have r655137 : γ 19 f = γ0 19 f := by rw [hγ0]
  have hm655138 : q655121 ∈ P655119 := RS_m hT htq655121 (by decide)
  refine rk10_e (show rk_10 γ (F655120 q655121) from RS_o hT htq655121) (fun q655140 q655141 p655142 p655143 p655144 p655145 p655146 p655147 p655148 p655149 p655150 p655151 p655152 p655153 p655154 p655155 p655156 he655139 hB655183 ht655157 ht655158 ht655159 ht655160 ht655161 ht655162 ht655163 ht655164 ht655165 ht655166 ht655167 ht655168 ht655169 ht655170 ht655171 ht655172 ht655173 ht655174 ht655175 ht655176 ht655177 ht655178 ht655179 ht655180 hB655184 => ?_)
  have ac0_9 : (fI (F655120 q655121) 9).toInt = p655142.toInt := by rw [he655139]; rfl
  have ac0_10 : (fI (F655120 q655121) 10).toInt = p655143.toInt := by rw [he655139]; rfl
  have ac0_32 : (fI (F655120 q655121) 32).toInt = p655154.toInt := by rw [he655139]; rfl
  have r655185 : γ 6 fo = γ0 6 fo := by rw [hγ0]
  have r655186 : γ 7 fo = γ0 7 fo := by rw [hγ0]
  have r655187 : γ 16 fo = γ0 16 fo := by rw [hγ0]
  refine G_aload_n 0 dr_cX17_give_0 rfl ?_
  refine G_iconst 0 dr_cX17_give_1 (by decide +kernel) ?_
  refine Gp_put 30 hm655138 he655139 dr_cX17_give_2 (gk_X17 D I) (Nat.le_of_ble_eq_true rfl) wr_7_104 rfl rfl rfl (Nat.le_of_ble_eq_true rfl) (fun F655188 e655189 n655190 => ?_)
  have he655191 : F655188 q655121 = .inr (22, [.ref (γ 9 0), .ref (γ 9 1), .ref (γ 9 2), .ref (γ 9 3), .ref (γ 9 4), .ref (γ 9 5), .ref (γ 9 6), .ref (γ 9 7), .ref (γ 9 8), .int p655142, .int p655143, .int p655144, .int p655145, .int p655146, .int p655147, .ref (γ 9 15), .ref (γ 9 16), .ref (γ 9 17), .ref (γ 9 18), .ref (γ 9 19), .ref (γ 9 20), .ref (γ 9 21), .ref (γ 9 22), .int p655148, .int p655149, .int p655150, .int p655151, .int p655152, .ref q655140, .ref (γ 9 29), .int 0, .ref (γ 9 31), .int p655154, .int p655155, .int p655156, .ref q655141]) := e655189
  have mk655192 : mKp (F655120 q655121) (F655188 q655121) := mKp_tr mKp_rf (by rw [he655139, he655191]; exact ⟨rfl, rfl⟩)
  have hT655193 : RS D I P655119 F655188 γ el := RS_set hT n655190 htq655121 (by decide) ⟨q655140, q655141, p655142, p655143, p655144, p655145, p655146, p655147, p655148, p655149, p655150, p655151, p655152, 0, p655154, p655155, p655156, he655191, ⟨(hB655183.1), (hB655183.2.1), (hB655183.2.2.1), (hB655183.2.2.2.1), (hB655183.2.2.2.2.1), (hB655183.2.2.2.2.2.1), (hB655183.2.2.2.2.2.2.1), (hB655183.2.2.2.2.2.2.2.1), (hB655183.2.2.2.2.2.2.2.2)⟩, ht655157, ht655158, ht655159, ht655160, ht655161, ht655162, ht655163, ht655164, ht655165, ht655166, ht655167, ht655168, ht655169, ht655170, ht655171, ht655172, ht655173, ht655174, ht655175, ht655176, ht655177, ht655178, ht655179, ht655180, hB655184⟩
  have hs655194 := rSk_put hst hT655193 n655190 htq655121 (by decide) (by decide)
  have ac655195 : (fI (F655188 q655121) 10).toInt = p655143.toInt := by rw [he655191]; rfl
  refine G_iload_n 1 dr_cX17_give_5 rfl ?_
  refine G_iconst 1 dr_cX17_give_6 (by decide +kernel) ?_
  refine G_icmp_lt 16 dr_cX17_give_7 (by decide +kernel) (fun hc655196 => ?_) (fun hc655196 => ?_)
  · have r655197 : p655122.toInt < 1 := gj_lt hc655196 (show Int32.toInt 1 = 1 by decide)
    have bp655122' : gB p655122 (-2147483648) 0 := ⟨by omega, by omega⟩
    refine G_aload_n 0 dr_cX17_give_16 rfl ?_
    refine G_iconst 1 dr_cX17_give_17 (by decide +kernel) ?_
    refine Gw_callV (As := [.int 1]) (gV_ok D I) (ct_587261_SpillForgeModel_no l hl0 D I γ el P655119 F655188 q655121 1 hT655193 htq655121) dr_cX17_give_18 ⟨wr_7_191, wr_1_14, wr_7_194, by decide, rfl, (Nat.le_of_ble_eq_true rfl), (Nat.le_of_ble_eq_true rfl)⟩ wr_7_193 wr_p_73 hm655138 he655191 rfl (rm_zc pk655132) (rm_zs pk655132) (Nat.le_of_ble_eq_true rfl) (fun r655201 w655202 dc655198 ds655199 hp655200 => ?_) (fun _ _ _ _ _ z => z.elim)
    obtain ⟨F655206, rfl, rfl, hT655207, hs655208, hdc, hds, x655203, x655204, ht655205⟩ := hp655200
    have hs655209 := rSk_str hs655194 hT655207 hs655208 (by decide) (by decide) (by decide)
    have mk655210 : mKp (F655120 q655121) (F655206 q655121) := mKp_tr mk655192 x655204
    change G _ _ _ _ _ _ _ (.int 0 :: _) _ _ _
    refine G_widen (cs' := ((rPh γ el f - rPh γ0 el0 f) / 18)) (sl' := (rPh γ el f - rPh γ0 el0 f)) (rm_d0 hdc) (rm_d0 hds) ?_
    have hm655211 : q655121 ∈ P655119 := RS_m hT655207 htq655121 (by decide)
    refine rk10_e (show rk_10 γ (F655206 q655121) from RS_o hT655207 htq655121) (fun q655213 q655214 p655215 p655216 p655217 p655218 p655219 p655220 p655221 p655222 p655223 p655224 p655225 p655226 p655227 p655228 p655229 he655212 hB655256 ht655230 ht655231 ht655232 ht655233 ht655234 ht655235 ht655236 ht655237 ht655238 ht655239 ht655240 ht655241 ht655242 ht655243 ht655244 ht655245 ht655246 ht655247 ht655248 ht655249 ht655250 ht655251 ht655252 ht655253 hB655257 => ?_)
    have ac655258 : (fI (F655206 q655121) 9).toInt = p655215.toInt := by rw [he655212]; rfl
    have ac655259 : (fI (F655206 q655121) 10).toInt = p655216.toInt := by rw [he655212]; rfl
    have ac655260 : (fI (F655206 q655121) 32).toInt = p655227.toInt := by rw [he655212]; rfl
    exact G_iretA dr_cX17_give_21 rfl (show ((rPh γ el f - rPh γ0 el0 f) / 18) ≤ (((387 * B + 6000) - rPh γ0 el0 f) / 18) by omega) (show (rPh γ el f - rPh γ0 el0 f) ≤ ((387 * B + 6000) - rPh γ0 el0 f) by omega) ⟨P655119, F655206, γ, el, 0, rfl, rfl, hs655209, ⟨by omega, by omega⟩, hB, (gB_w (gBl (show Int32.toInt 0 = 0 by decide)) (by decide) (by decide)), (by have qa0 : Int32.toInt 0 = 0 := (by decide); omega), mk655210⟩
  · have r655261 : 1 ≤ p655122.toInt := gj_nlt hc655196 (show Int32.toInt 1 = 1 by decide)
    have bp655122' : gB p655122 1 2147483647 := ⟨by omega, by omega⟩
    refine G_iload_n 1 dr_cX17_give_10 rfl ?_
    refine G_bipush 32 dr_cX17_give_11 (by decide +kernel) ?_
    refine G_icmp_le 22 dr_cX17_give_13 (by decide +kernel) (fun hc655262 => ?_) (fun hc655262 => ?_)
    · have r655263 : p655122.toInt ≤ 32 := gj_le hc655262 (show Int32.toInt 32 = 32 by decide)
      have bp655122'' : gB p655122 1 32 := ⟨by omega, by omega⟩
      refine G_aload_n 0 dr_cX17_give_22 rfl ?_
      refine Gp_get 9 hm655138 he655191 dr_cX17_give_23 (gk_X17 D I) (Nat.le_of_ble_eq_true rfl) wr_7_83 rfl ?_
      have bp655142 : gB p655142 0 1 := (hB655183.1)
      refine G_if_ne 35 dr_cX17_give_26 (by decide +kernel) (fun hc655264 => ?_) (fun hc655264 => ?_)
      · have r655265 : p655142.toInt ≠ 0 := gj_neq hc655264 (show Int32.toInt 0 = 0 by decide)
        have bp655142' : gB p655142 1 1 := gB_t1 bp655142 r655265
        refine G_aload_n 0 dr_cX17_give_35 rfl ?_
        refine Gp_get 7 hm655138 he655191 dr_cX17_give_36 (gk_X17 D I) (Nat.le_of_ble_eq_true rfl) wr_7_81 rfl ?_
        rw [show γ 9 7 = q655123 from (congrFun (rSk_9 hs655194) 7).trans hvq655123]
        refine G_aload_n 0 dr_cX17_give_39 rfl ?_
        refine Gp_get 6 hm655138 he655191 dr_cX17_give_40 (gk_X17 D I) (Nat.le_of_ble_eq_true rfl) wr_7_80 rfl ?_
        rw [show γ 9 6 = q655124 from (congrFun (rSk_9 hs655194) 6).trans hvq655124]
        have rg655266 := rM_ge hT655193 htq655123 hf1
        have rm655267 := rM_bd hB
        have bd655268 := rBd_c hT655193 htq655123 hf1 hB
        have rc655269 := rc_at hT655193 htq655123 hf1
        have hm655275 : q655123 ∈ P655119 := RS_m hT655193 htq655123 (by decide)
        obtain ⟨q655277, q655278, p655279, p655280, he655276, ht655296, ht655281, ht655282, ht655283, ht655284, r655285, r655286, r655287, r655288, r655289, r655290, r655291, r655292, r655293, r655294, r655295⟩ := show rk_9 γ el q655123 (F655188 q655123) from RS_o hT655193 htq655123
        have bp655279 : gB p655279 0 1000000 := ⟨by omega, by omega⟩
        have bp655280 : gB p655280 0 1000000 := ⟨by omega, by omega⟩
        have hf655297 : γ 1 q655277 = f := (show γ 1 q655277 = γ 1 q655123 from ht655282).trans hf1
        have hf655298 : γ 1 q655278 = f := (show γ 1 q655278 = γ 1 q655123 from ht655284).trans hf1
        have r655299 : γ 6 (γ 1 q655123) = γ 6 f := by rw [hf1]
        have r655300 : γ 16 (γ 1 q655123) = γ 16 f := by rw [hf1]
        refine Gw_callV (As := [.ref q655124]) (gV_ok D I) (cg_196056_Code_copy l hl0 D I γ el f fo B P655119 F655188 q655123 q655124 hT655193 htq655123 htq655124 hf1 hfo1 hne hB hBk (by omega) (by omega) (by omega)) dr_cX17_give_43 ⟨wr_10_132, wr_1_15, wr_10_135, by decide, rfl, (Nat.le_of_ble_eq_true rfl), (Nat.le_of_ble_eq_true rfl)⟩ wr_10_133 wr_10_134 hm655275 he655276 rfl (rm_gc hph pk655132) (rm_gs hph pk655132) (Nat.le_of_ble_eq_true rfl) (fun r655273 w655274 dc655270 ds655271 hp655272 => ?_) (fun _ _ _ _ _ z => z.elim)
        obtain ⟨P655306, F655307, γ, el, rfl, rfl, hk655308, ⟨hr655309, hr655310⟩, hB655311, x655301, x655302, x655303, x655304, ht655305⟩ := hp655272
        have hT655312 := hk655308.1
        have hs655313 := rSk_tr hs655194 hk655308 (by decide) (by decide) (by decide)
        have kp655314 : F655307 q655121 = F655188 q655121 := rSk_F hk655308 htq655121 (by decide) (by decide)
        have r655315 := rSk_F hk655308 htq655121 (by decide) (by decide)
        have ht655316 : rKd γ q655121 10 := rSk_k hk655308 htq655121 (by decide) (by decide)
        have ht655317 : rKd γ q655123 9 := rSk_k hk655308 htq655123 (by decide) (by decide)
        have hf655318 : γ 1 q655123 = f := rSk_1 hk655308 htq655123 (by decide) hf1
        have ht655319 : rKd γ q655124 9 := rSk_kf hk655308 htq655124 (by decide) (by rw [hfo1]; exact hne)
        have hf655320 : γ 1 q655124 = fo := rSk_1 hk655308 htq655124 (by decide) hfo1
        have mk655321 : mKp (F655120 q655121) (F655307 q655121) := mKp_tr mk655192 (mKp_eq (rSk_F hk655308 htq655121 (by decide) (by decide)))
        clear r655285 r655286 r655287 r655288 r655289 r655290 r655292 r655293 r655294 r655295 bp655279 bp655280 rg655266 rm655267 bd655268 rc655269
        clear r655291
        have hph655322 : rPh γ0 el0 f ≤ rPh γ el f := rm_ph hph hr655310
        have pk655323 : rPh γ el f ≤ 387 * B + 6000 := rm_pk (rM_ge hT655312 ht655317 hf655318).1 (rM_bd hB655311)
        change G _ _ _ _ _ _ _ _ _ _ _
        refine G_widen (cs' := ((rPh γ el f - rPh γ0 el0 f) / 18)) (sl' := (rPh γ el f - rPh γ0 el0 f)) (rm_wc hph hr655309) (rm_ws hph hr655310) ?_
        have r655324 := rSk_g hs655313 hne
        have r655325 : γ 6 fo = γ0 6 fo := r655324.1
        have r655326 : γ 7 fo = γ0 7 fo := r655324.2.1
        have r655327 : γ 16 fo = γ0 16 fo := r655324.2.2.1
        have r655328 : 0 < γ 6 (γ 1 q655123) := by rw [hf655318]; omega
        refine G_aload_n 0 dr_cX17_give_46 rfl ?_
        refine G_aload_n 0 dr_cX17_give_47 rfl ?_
        have hm655329 : q655121 ∈ P655306 := RS_m hT655312 ht655316 (by decide)
        refine rk10_e (show rk_10 γ (F655307 q655121) from RS_o hT655312 ht655316) (fun q655331 q655332 p655333 p655334 p655335 p655336 p655337 p655338 p655339 p655340 p655341 p655342 p655343 p655344 p655345 p655346 p655347 he655330 hB655374 ht655348 ht655349 ht655350 ht655351 ht655352 ht655353 ht655354 ht655355 ht655356 ht655357 ht655358 ht655359 ht655360 ht655361 ht655362 ht655363 ht655364 ht655365 ht655366 ht655367 ht655368 ht655369 ht655370 ht655371 hB655375 => ?_)
        refine Gp_get 7 hm655329 he655330 dr_cX17_give_48 (gk_X17 D I) (Nat.le_of_ble_eq_true rfl) wr_7_81 rfl ?_
        rw [show γ 9 7 = q655123 from (congrFun (rSk_9 hs655313) 7).trans hvq655123]
        refine G_iload_n 1 dr_cX17_give_51 rfl ?_
        have rg655376 := rM_ge hT655312 ht655317 hf655318
        have rm655377 := rM_bd hB655311
        have bd655378 := rBd_c hT655312 ht655317 hf655318 hB655311
        have rc655379 := rc_at hT655312 ht655317 hf655318
        refine Gw_callV (As := [.ref q655123, .int p655122]) (gV_ok D I) (cg_629669_SpillForgeModel_giveAll l hl0 D I γ el f B P655306 F655307 q655121 q655123 p655122 hT655312 ht655316 ht655317 hf655318 hB655311 hBk bp655122'' (by omega) (by omega) (by omega)) dr_cX17_give_52 ⟨wr_10_148, wr_1_14, wr_10_151, by decide, rfl, (Nat.le_of_ble_eq_true rfl), (Nat.le_of_ble_eq_true rfl)⟩ wr_10_150 wr_p_92 hm655329 he655330 rfl (rm_gc hph655322 pk655323) (rm_gs hph655322 pk655323) (Nat.le_of_ble_eq_true rfl) (fun r655383 w655384 dc655380 ds655381 hp655382 => ?_) (fun _ _ _ _ _ z => z.elim)
        obtain ⟨P655388, F655389, γ, el, o655385, rfl, rfl, hk655390, ⟨hr655391, hr655392⟩, hB655393, bo655385, x655386, x655387⟩ := hp655382
        have hT655394 := hk655390.1
        have hs655395 := rSk_tr hs655313 hk655390 (by decide) (by decide) (by decide)
        have ht655396 : rKd γ q655121 10 := rSk_k hk655390 ht655316 (by decide) (by decide)
        have ht655397 : rKd γ q655123 9 := rSk_k hk655390 ht655317 (by decide) (by decide)
        have hf655398 : γ 1 q655123 = f := rSk_1 hk655390 ht655317 (by decide) hf655318
        have ht655399 : rKd γ q655124 9 := rSk_kf hk655390 ht655319 (by decide) (by rw [hf655320]; exact hne)
        have hf655400 : γ 1 q655124 = fo := rSk_1 hk655390 ht655319 (by decide) hf655320
        clear rg655376 rm655377 bd655378 rc655379
        have mk655401 : mKp (F655120 q655121) (F655389 q655121) := mKp_tr mk655321 x655387
        have hph655402 : rPh γ0 el0 f ≤ rPh γ el f := rm_ph hph655322 hr655392
        have pk655403 : rPh γ el f ≤ 387 * B + 6000 := rm_pk (rM_ge hT655394 ht655397 hf655398).1 (rM_bd hB655393)
        change G _ _ _ _ _ _ _ (.int o655385 :: _) _ _ _
        refine G_widen (cs' := ((rPh γ el f - rPh γ0 el0 f) / 18)) (sl' := (rPh γ el f - rPh γ0 el0 f)) (rm_wc hph655322 hr655391) (rm_ws hph655322 hr655392) ?_
        have r655404 := rSk_g hs655395 hne
        have r655405 : γ 6 fo = γ0 6 fo := r655404.1
        have r655406 : γ 7 fo = γ0 7 fo := r655404.2.1
        have r655407 : γ 16 fo = γ0 16 fo := r655404.2.2.1
        have r655408 : 0 < γ 6 (γ 1 q655123) := by rw [hf655398]; omega
        refine G_istore_n (L' := [(2, .int o655385), (0, .ref q655121), (1, .int p655122)]) dr_cX17_give_55 (Nat.le_of_ble_eq_true rfl) rfl ?_
        refine G_aload_n 1 dr_cX17_give_56 rfl ?_
        refine G_iload_n 0 dr_cX17_give_57 rfl ?_
        refine G_if_le 65 dr_cX17_give_58 (by decide +kernel) (fun hc655409 => ?_) (fun hc655409 => ?_)
        · have r655410 : o655385.toInt ≤ 0 := gj_le hc655409 (show Int32.toInt 0 = 0 by decide)
          have bo655385' : gB o655385 (-1) 0 := ⟨by omega, by omega⟩
          refine G_iconst 0 dr_cX17_give_65 (by decide +kernel) ?_
          have hm655411 : q655121 ∈ P655388 := RS_m hT655394 ht655396 (by decide)
          refine rk10_e (show rk_10 γ (F655389 q655121) from RS_o hT655394 ht655396) (fun q655413 q655414 p655415 p655416 p655417 p655418 p655419 p655420 p655421 p655422 p655423 p655424 p655425 p655426 p655427 p655428 p655429 he655412 hB655456 ht655430 ht655431 ht655432 ht655433 ht655434 ht655435 ht655436 ht655437 ht655438 ht655439 ht655440 ht655441 ht655442 ht655443 ht655444 ht655445 ht655446 ht655447 ht655448 ht655449 ht655450 ht655451 ht655452 ht655453 hB655457 => ?_)
          refine Gp_put 10 hm655411 he655412 dr_cX17_give_66 (gk_X17 D I) (Nat.le_of_ble_eq_true rfl) wr_7_84 rfl rfl rfl (Nat.le_of_ble_eq_true rfl) (fun F655458 e655459 n655460 => ?_)
          have he655461 : F655458 q655121 = .inr (22, [.ref (γ 9 0), .ref (γ 9 1), .ref (γ 9 2), .ref (γ 9 3), .ref (γ 9 4), .ref (γ 9 5), .ref (γ 9 6), .ref (γ 9 7), .ref (γ 9 8), .int p655415, .int 0, .int p655417, .int p655418, .int p655419, .int p655420, .ref (γ 9 15), .ref (γ 9 16), .ref (γ 9 17), .ref (γ 9 18), .ref (γ 9 19), .ref (γ 9 20), .ref (γ 9 21), .ref (γ 9 22), .int p655421, .int p655422, .int p655423, .int p655424, .int p655425, .ref q655413, .ref (γ 9 29), .int p655426, .ref (γ 9 31), .int p655427, .int p655428, .int p655429, .ref q655414]) := e655459
          have mk655462 : mKp (F655120 q655121) (F655458 q655121) := mKp_tr mk655401 (by rw [he655412, he655461]; exact ⟨rfl, rfl⟩)
          refine G_iload_n 0 dr_cX17_give_69 rfl ?_
          have hT655463 : RS D I P655388 F655458 γ el := RS_set hT655394 n655460 ht655396 (by decide) ⟨q655413, q655414, p655415, 0, p655417, p655418, p655419, p655420, p655421, p655422, p655423, p655424, p655425, p655426, p655427, p655428, p655429, he655461, ⟨(hB655456.1), (gB_w (gBl (show Int32.toInt 0 = 0 by decide)) (by decide) (by decide)), (hB655456.2.2.1), (hB655456.2.2.2.1), (hB655456.2.2.2.2.1), (hB655456.2.2.2.2.2.1), (hB655456.2.2.2.2.2.2.1), (hB655456.2.2.2.2.2.2.2.1), (hB655456.2.2.2.2.2.2.2.2)⟩, ht655430, ht655431, ht655432, ht655433, ht655434, ht655435, ht655436, ht655437, ht655438, ht655439, ht655440, ht655441, ht655442, ht655443, ht655444, ht655445, ht655446, ht655447, ht655448, ht655449, ht655450, ht655451, ht655452, ht655453, ⟨(show (_ ∨ _ ∨ _) ∧ (_ ∨ _ ∨ _) ∧ _ from hB655457).1, Or.inr (Or.inl (by have z : 0 < γ 6 f := (by omega); rw [x655125] at z; exact z)), (show (_ ∨ _ ∨ _) ∧ (_ ∨ _ ∨ _) ∧ _ from hB655457).2.2⟩⟩
          have hs655464 := rSk_put hs655395 hT655463 n655460 ht655396 (by decide) (by decide)
          have ac655465 : (fI (F655458 q655121) 9).toInt = p655415.toInt := by rw [he655461]; rfl
          have ac655466 : (fI (F655458 q655121) 10).toInt = 0 := by rw [he655461]; show Int32.toInt 0 = 0; decide
          have ac655467 : (fI (F655458 q655121) 32).toInt = p655427.toInt := by rw [he655461]; rfl
          have mq655468 : mKp _ _ := mk655401
          exact G_iretA dr_cX17_give_70 rfl (show ((rPh γ el f - rPh γ0 el0 f) / 18) ≤ (((387 * B + 6000) - rPh γ0 el0 f) / 18) by omega) (show (rPh γ el f - rPh γ0 el0 f) ≤ ((387 * B + 6000) - rPh γ0 el0 f) by omega) ⟨P655388, F655458, γ, el, o655385, rfl, rfl, hs655464, ⟨by omega, by omega⟩, hB655393, (gB_w bo655385' (by decide) (by decide)), (by omega), mk655462⟩
        · have r655469 : 0 < o655385.toInt := gj_nle hc655409 (show Int32.toInt 0 = 0 by decide)
          have bo655385' : gB o655385 1 40 := ⟨by omega, by omega⟩
          refine G_iconst 1 dr_cX17_give_61 (by decide +kernel) ?_
          refine G_goto 66 dr_cX17_give_62 (by decide +kernel) ?_
          have hm655470 : q655121 ∈ P655388 := RS_m hT655394 ht655396 (by decide)
          refine rk10_e (show rk_10 γ (F655389 q655121) from RS_o hT655394 ht655396) (fun q655472 q655473 p655474 p655475 p655476 p655477 p655478 p655479 p655480 p655481 p655482 p655483 p655484 p655485 p655486 p655487 p655488 he655471 hB655515 ht655489 ht655490 ht655491 ht655492 ht655493 ht655494 ht655495 ht655496 ht655497 ht655498 ht655499 ht655500 ht655501 ht655502 ht655503 ht655504 ht655505 ht655506 ht655507 ht655508 ht655509 ht655510 ht655511 ht655512 hB655516 => ?_)
          refine Gp_put 10 hm655470 he655471 dr_cX17_give_66 (gk_X17 D I) (Nat.le_of_ble_eq_true rfl) wr_7_84 rfl rfl rfl (Nat.le_of_ble_eq_true rfl) (fun F655517 e655518 n655519 => ?_)
          have he655520 : F655517 q655121 = .inr (22, [.ref (γ 9 0), .ref (γ 9 1), .ref (γ 9 2), .ref (γ 9 3), .ref (γ 9 4), .ref (γ 9 5), .ref (γ 9 6), .ref (γ 9 7), .ref (γ 9 8), .int p655474, .int 1, .int p655476, .int p655477, .int p655478, .int p655479, .ref (γ 9 15), .ref (γ 9 16), .ref (γ 9 17), .ref (γ 9 18), .ref (γ 9 19), .ref (γ 9 20), .ref (γ 9 21), .ref (γ 9 22), .int p655480, .int p655481, .int p655482, .int p655483, .int p655484, .ref q655472, .ref (γ 9 29), .int p655485, .ref (γ 9 31), .int p655486, .int p655487, .int p655488, .ref q655473]) := e655518
          have mk655521 : mKp (F655120 q655121) (F655517 q655121) := mKp_tr mk655401 (by rw [he655471, he655520]; exact ⟨rfl, rfl⟩)
          refine G_iload_n 0 dr_cX17_give_69 rfl ?_
          have hT655522 : RS D I P655388 F655517 γ el := RS_set hT655394 n655519 ht655396 (by decide) ⟨q655472, q655473, p655474, 1, p655476, p655477, p655478, p655479, p655480, p655481, p655482, p655483, p655484, p655485, p655486, p655487, p655488, he655520, ⟨(hB655515.1), (gB_w (gBl (show Int32.toInt 1 = 1 by decide)) (by decide) (by decide)), (hB655515.2.2.1), (hB655515.2.2.2.1), (hB655515.2.2.2.2.1), (hB655515.2.2.2.2.2.1), (hB655515.2.2.2.2.2.2.1), (hB655515.2.2.2.2.2.2.2.1), (hB655515.2.2.2.2.2.2.2.2)⟩, ht655489, ht655490, ht655491, ht655492, ht655493, ht655494, ht655495, ht655496, ht655497, ht655498, ht655499, ht655500, ht655501, ht655502, ht655503, ht655504, ht655505, ht655506, ht655507, ht655508, ht655509, ht655510, ht655511, ht655512, ⟨(show (_ ∨ _ ∨ _) ∧ (_ ∨ _ ∨ _) ∧ _ from hB655516).1, Or.inr (Or.inl (by have z : 0 < γ 6 f := (by omega); rw [x655125] at z; exact z)), (show (_ ∨ _ ∨ _) ∧ (_ ∨ _ ∨ _) ∧ _ from hB655516).2.2⟩⟩
          have hs655523 := rSk_put hs655395 hT655522 n655519 ht655396 (by decide) (by decide)
          have ac655524 : (fI (F655517 q655121) 9).toInt = p655474.toInt := by rw [he655520]; rfl
          have ac655525 : (fI (F655517 q655121) 10).toInt = 1 := by rw [he655520]; show Int32.toInt 1 = 1; decide
          have ac655526 : (fI (F655517 q655121) 32).toInt = p655486.toInt := by rw [he655520]; rfl
          have mq655527 : mKp _ _ := mk655401
          exact G_iretA dr_cX17_give_70 rfl (show ((rPh γ el f - rPh γ0 el0 f) / 18) ≤ (((387 * B + 6000) - rPh γ0 el0 f) / 18) by omega) (show (rPh γ el f - rPh γ0 el0 f) ≤ ((387 * B + 6000) - rPh γ0 el0 f) by omega) ⟨P655388, F655517, γ, el, o655385, rfl, rfl, hs655523, ⟨by omega, by omega⟩, hB655393, (gB_w bo655385' (by decide) (by decide)), (by omega), mk655521⟩
      · have r655528 : p655142.toInt = 0 := gj_eq hc655264 (show Int32.toInt 0 = 0 by decide)
        have bp655142' : gB p655142 0 0 := gB_t0 r655528
        refine G_aload_n 0 dr_cX17_give_29 rfl ?_
        refine G_iconst 2 dr_cX17_give_30 (by decide +kernel) ?_
        refine Gw_callV (As := [.int 2]) (gV_ok D I) (ct_587261_SpillForgeModel_no l hl0 D I γ el P655119 F655188 q655121 2 hT655193 htq655121) dr_cX17_give_31 ⟨wr_7_191, wr_1_14, wr_7_194, by decide, rfl, (Nat.le_of_ble_eq_true rfl), (Nat.le_of_ble_eq_true rfl)⟩ wr_7_193 wr_p_73 hm655138 he655191 rfl (rm_zc pk655132) (rm_zs pk655132) (Nat.le_of_ble_eq_true rfl) (fun r655532 w655533 dc655529 ds655530 hp655531 => ?_) (fun _ _ _ _ _ z => z.elim)
        obtain ⟨F655537, rfl, rfl, hT655538, hs655539, hdc, hds, x655534, x655535, ht655536⟩ := hp655531
        have hs655540 := rSk_str hs655194 hT655538 hs655539 (by decide) (by decide) (by decide)
        have mk655541 : mKp (F655120 q655121) (F655537 q655121) := mKp_tr mk655192 x655535
        change G _ _ _ _ _ _ _ (.int 0 :: _) _ _ _
        refine G_widen (cs' := ((rPh γ el f - rPh γ0 el0 f) / 18)) (sl' := (rPh γ el f - rPh γ0 el0 f)) (rm_d0 hdc) (rm_d0 hds) ?_
        have hm655542 : q655121 ∈ P655119 := RS_m hT655538 htq655121 (by decide)
        refine rk10_e (show rk_10 γ (F655537 q655121) from RS_o hT655538 htq655121) (fun q655544 q655545 p655546 p655547 p655548 p655549 p655550 p655551 p655552 p655553 p655554 p655555 p655556 p655557 p655558 p655559 p655560 he655543 hB655587 ht655561 ht655562 ht655563 ht655564 ht655565 ht655566 ht655567 ht655568 ht655569 ht655570 ht655571 ht655572 ht655573 ht655574 ht655575 ht655576 ht655577 ht655578 ht655579 ht655580 ht655581 ht655582 ht655583 ht655584 hB655588 => ?_)
        have ac655589 : (fI (F655537 q655121) 9).toInt = p655546.toInt := by rw [he655543]; rfl
        have ac655590 : (fI (F655537 q655121) 10).toInt = p655547.toInt := by rw [he655543]; rfl
        have ac655591 : (fI (F655537 q655121) 32).toInt = p655558.toInt := by rw [he655543]; rfl
        exact G_iretA dr_cX17_give_34 rfl (show ((rPh γ el f - rPh γ0 el0 f) / 18) ≤ (((387 * B + 6000) - rPh γ0 el0 f) / 18) by omega) (show (rPh γ el f - rPh γ0 el0 f) ≤ ((387 * B + 6000) - rPh γ0 el0 f) by omega) ⟨P655119, F655537, γ, el, 0, rfl, rfl, hs655540, ⟨by omega, by omega⟩, hB, (gB_w (gBl (show Int32.toInt 0 = 0 by decide)) (by decide) (by decide)), (by have qa0 : Int32.toInt 0 = 0 := (by decide); omega), mk655541⟩
    · have r655592 : 32 < p655122.toInt := gj_nle hc655262 (show Int32.toInt 32 = 32 by decide)
      have bp655122'' : gB p655122 33 2147483647 := ⟨by omega, by omega⟩
      refine G_aload_n 0 dr_cX17_give_16 rfl ?_
      refine G_iconst 1 dr_cX17_give_17 (by decide +kernel) ?_
      refine Gw_callV (As := [.int 1]) (gV_ok D I) (ct_587261_SpillForgeModel_no l hl0 D I γ el P655119 F655188 q655121 1 hT655193 htq655121) dr_cX17_give_18 ⟨wr_7_191, wr_1_14, wr_7_194, by decide, rfl, (Nat.le_of_ble_eq_true rfl), (Nat.le_of_ble_eq_true rfl)⟩ wr_7_193 wr_p_73 hm655138 he655191 rfl (rm_zc pk655132) (rm_zs pk655132) (Nat.le_of_ble_eq_true rfl) (fun r655596 w655597 dc655593 ds655594 hp655595 => ?_) (fun _ _ _ _ _ z => z.elim)
      obtain ⟨F655601, rfl, rfl, hT655602, hs655603, hdc, hds, x655598, x655599, ht655600⟩ := hp655595
      have hs655604 := rSk_str hs655194 hT655602 hs655603 (by decide) (by decide) (by decide)
      have mk655605 : mKp (F655120 q655121) (F655601 q655121) := mKp_tr mk655192 x655599
      change G _ _ _ _ _ _ _ (.int 0 :: _) _ _ _
      refine G_widen (cs' := ((rPh γ el f - rPh γ0 el0 f) / 18)) (sl' := (rPh γ el f - rPh γ0 el0 f)) (rm_d0 hdc) (rm_d0 hds) ?_
      have hm655606 : q655121 ∈ P655119 := RS_m hT655602 htq655121 (by decide)
      refine rk10_e (show rk_10 γ (F655601 q655121) from RS_o hT655602 htq655121) (fun q655608 q655609 p655610 p655611 p655612 p655613 p655614 p655615 p655616 p655617 p655618 p655619 p655620 p655621 p655622 p655623 p655624 he655607 hB655651 ht655625 ht655626 ht655627 ht655628 ht655629 ht655630 ht655631 ht655632 ht655633 ht655634 ht655635 ht655636 ht655637 ht655638 ht655639 ht655640 ht655641 ht655642 ht655643 ht655644 ht655645 ht655646 ht655647 ht655648 hB655652 => ?_)
      have ac655653 : (fI (F655601 q655121) 9).toInt = p655610.toInt := by rw [he655607]; rfl
      have ac655654 : (fI (F655601 q655121) 10).toInt = p655611.toInt := by rw [he655607]; rfl
      have ac655655 : (fI (F655601 q655121) 32).toInt = p655622.toInt := by rw [he655607]; rfl
      exact G_iretA dr_cX17_give_21 rfl (show ((rPh γ el f - rPh γ0 el0 f) / 18) ≤ (((387 * B + 6000) - rPh γ0 el0 f) / 18) by omega) (show (rPh γ el f - rPh γ0 el0 f) ≤ ((387 * B + 6000) - rPh γ0 el0 f) by omega) ⟨P655119, F655601, γ, el, 0, rfl, rfl, hs655604, ⟨by omega, by omega⟩, hB, (gB_w (gBl (show Int32.toInt 0 = 0 by decide)) (by decide) (by decide)), (by have qa0 : Int32.toInt 0 = 0 := (by decide); omega), mk655605⟩
