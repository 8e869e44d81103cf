theorem dr_cX17_give_0 : decode cX17_give 0 = .ok (.aload_n 0, 1) := by decide +kernel
theorem dr_cX17_give_1 : decode cX17_give 1 = .ok (.iconst 0, 1) := by decide +kernel
theorem dr_cX17_give_2 : decode cX17_give 2 = .ok (.putfield 380, 3) := by decide +kernel
theorem dr_cX17_give_5 : decode cX17_give 5 = .ok (.iload_n 1, 1) := by decide +kernel
theorem dr_cX17_give_6 : decode cX17_give 6 = .ok (.iconst 1, 1) := by decide +kernel
theorem dr_cX17_give_7 : decode cX17_give 7 = .ok (.if_icmp .lt 9, 3) := by decide +kernel
theorem dr_cX17_give_16 : decode cX17_give 16 = .ok (.aload_n 0, 1) := by decide +kernel
theorem dr_cX17_give_17 : decode cX17_give 17 = .ok (.iconst 1, 1) := by decide +kernel
theorem dr_cX17_give_18 : decode cX17_give 18 = .ok (.invokevirtual 385, 3) := by decide +kernel
theorem dr_cX17_give_21 : decode cX17_give 21 = .ok (.ireturn, 1) := by decide +kernel
theorem dr_cX17_give_10 : decode cX17_give 10 = .ok (.iload_n 1, 1) := by decide +kernel
theorem dr_cX17_give_11 : decode cX17_give 11 = .ok (.bipush 32, 2) := by decide +kernel
theorem dr_cX17_give_13 : decode cX17_give 13 = .ok (.if_icmp .le 9, 3) := by decide +kernel
theorem dr_cX17_give_22 : decode cX17_give 22 = .ok (.aload_n 0, 1) := by decide +kernel
theorem dr_cX17_give_23 : decode cX17_give 23 = .ok (.getfield 414, 3) := by decide +kernel
theorem dr_cX17_give_26 : decode cX17_give 26 = .ok (.ifCond .ne 9, 3) := by decide +kernel
theorem dr_cX17_give_35 : decode cX17_give 35 = .ok (.aload_n 0, 1) := by decide +kernel
theorem dr_cX17_give_36 : decode cX17_give 36 = .ok (.getfield 365, 3) := by decide +kernel
theorem dr_cX17_give_39 : decode cX17_give 39 = .ok (.aload_n 0, 1) := by decide +kernel
theorem dr_cX17_give_40 : decode cX17_give 40 = .ok (.getfield 361, 3) := by decide +kernel
theorem dr_cX17_give_43 : decode cX17_give 43 = .ok (.invokevirtual 419, 3) := by decide +kernel
theorem dr_cX17_give_46 : decode cX17_give 46 = .ok (.aload_n 0, 1) := by decide +kernel
theorem dr_cX17_give_47 : decode cX17_give 47 = .ok (.aload_n 0, 1) := by decide +kernel
theorem dr_cX17_give_48 : decode cX17_give 48 = .ok (.getfield 365, 3) := by decide +kernel
theorem dr_cX17_give_51 : decode cX17_give 51 = .ok (.iload_n 1, 1) := by decide +kernel
theorem dr_cX17_give_52 : decode cX17_give 52 = .ok (.invokevirtual 422, 3) := by decide +kernel
theorem wr_10_148 : (Jvm.Cond.methodLink "SpillForgeModel" (422 : Nat) ({ cls := "SpillForgeModel", name := "giveAll", desc := "(LSpillForgeModel$Code;I)I" } : Jvm.MethodName)) ∈ gw := gw_10 148 rfl rfl
theorem wr_10_151 : (Jvm.Cond.code ({ cls := "SpillForgeModel", name := "giveAll", desc := "(LSpillForgeModel$Code;I)I" } : Jvm.MethodName) prog_14_method_24_code (8 : Nat) (Option.some Jvm.ClassFile.FieldType.int)) ∈ gw := gw_10 151 rfl rfl
theorem wr_10_150 : (Jvm.Cond.instanceMethod ({ cls := "SpillForgeModel", name := "giveAll", desc := "(LSpillForgeModel$Code;I)I" } : Jvm.MethodName)) ∈ gw := gw_10 150 rfl rfl
theorem wr_p_92 : Cond.selects "SpillForgeModel" ⟨"SpillForgeModel", "giveAll", "(LSpillForgeModel$Code;I)I"⟩ ⟨"SpillForgeModel", "giveAll", "(LSpillForgeModel$Code;I)I"⟩ ∈ gw := gw_p _ 92 rfl rfl rfl
theorem dr_cX17_give_55 : decode cX17_give 55 = .ok (.istore_n 2, 1) := by decide +kernel
theorem dr_cX17_give_56 : decode cX17_give 56 = .ok (.aload_n 0, 1) := by decide +kernel
theorem dr_cX17_give_57 : decode cX17_give 57 = .ok (.iload_n 2, 1) := by decide +kernel
theorem dr_cX17_give_58 : decode cX17_give 58 = .ok (.ifCond .le 7, 3) := by decide +kernel
theorem dr_cX17_give_65 : decode cX17_give 65 = .ok (.iconst 0, 1) := by decide +kernel
theorem dr_cX17_give_66 : decode cX17_give 66 = .ok (.putfield 416, 3) := by decide +kernel
theorem dr_cX17_give_69 : decode cX17_give 69 = .ok (.iload_n 2, 1) := by decide +kernel
theorem dr_cX17_give_70 : decode cX17_give 70 = .ok (.ireturn, 1) := by decide +kernel
theorem dr_cX17_give_61 : decode cX17_give 61 = .ok (.iconst 1, 1) := by decide +kernel
theorem dr_cX17_give_62 : decode cX17_give 62 = .ok (.goto 4, 3) := by decide +kernel
theorem dr_cX17_give_29 : decode cX17_give 29 = .ok (.aload_n 0, 1) := by decide +kernel
theorem dr_cX17_give_30 : decode cX17_give 30 = .ok (.iconst 2, 1) := by decide +kernel
theorem dr_cX17_give_31 : decode cX17_give 31 = .ok (.invokevirtual 385, 3) := by decide +kernel
theorem dr_cX17_give_34 : decode cX17_give 34 = .ok (.ireturn, 1) := by decide +kernel
abbrev ky_658028_SpillForgeModel_give : gKey := (cX17_give, 3, "SpillForgeModel", (some FieldType.int), [], "give", fun _ _ => True)
def pg_658028_SpillForgeModel_give (D : va_G) (I : FieldType → ClassId) (γ0 el0 : Nat → Nat → Nat) (f : Nat) (fo : Nat) (B : Nat) (P658016 : List Nat) (F658017 : Nat → va_E) (q658018 : Nat) (p658019 : Int32) (q658020 : Nat) (q658021 : Nat) : Option Value → va_W → Nat → Nat → Prop := fun r w dc ds => ∃ (P658562 : List Nat) (F658563 : Nat → va_E) (γ el : Nat → Nat → Nat) (o658561 : Int32), r = some (.int o658561) ∧ w = va_pl P658562 F658563 ∧ rSk f [1, 2, 3, 101, 102, 103, 202] ([1, 2, 3, 4, 5, 6, 7, 8, 9, 101, 102, 103, 202] ++ npk) D I P658016 F658017 γ0 el0 P658562 F658563 γ el ∧ (18 * dc + rPh γ0 el0 f ≤ rPh γ el f ∧ ds + rPh γ0 el0 f ≤ rPh γ el f) ∧ rBd γ el f B ∧ gB o658561 (-1) 40 ∧ ((fI (F658563 q658018) 10).toInt = 0 ∨ 0 < γ 6 f) ∧ mKq (F658017 q658018) (F658563 q658018) ∧ tr_RModel_give D I γ0 el0 f fo P658016 F658017 q658018 p658019 q658020 q658021 o658561 P658562 F658563 γ el
set_option maxRecDepth 100000 in
set_option maxHeartbeats 20000000 in
theorem cg_658028_SpillForgeModel_give (l : Launch) (hl0 : l.stackTraces = false) (D : va_G) (I : FieldType → ClassId) (γ0 el0 : Nat → Nat → Nat) (f : Nat) (fo : Nat) (B : Nat) (P658016 : List Nat) (F658017 : Nat → va_E) (q658018 : Nat) (p658019 : Int32) (q658020 : Nat) (q658021 : Nat) (hT0 : RS D I P658016 F658017 γ0 el0) (hzq658018 : rKd γ0 q658018 10) (hzq658020 : rKd γ0 q658020 9) (hzq658021 : rKd γ0 q658021 9) (hvq658020 : γ0 9 7 = q658020) (hvq658021 : γ0 9 6 = q658021) (hf0 : γ0 1 q658020 = f) (hfo0 : γ0 1 q658021 = fo) (hne : fo ≠ f) (hB0 : rBd γ0 el0 f B) (hBk : B ≤ 100000) (x658022 : f = 1) (x658023 : fo = 0) (x658024 : ((fI (F658017 q658018) 9).toInt = 0 ∨ (0 < γ0 6 fo ∧ γ0 16 fo ≤ 160))) (x658025 : γ0 7 fo = 0) (x658026 : 4061 ≤ B) (x658027 : ((fI (F658017 q658018) 10).toInt = 0 ∨ 0 < γ0 6 f)) : CtA (gV D I) l yX17_give cX17_give 3 (some FieldType.int) 11 251 (((387 * B + 6000) - rPh γ0 el0 f) / 18) ((387 * B + 6000) - rPh γ0 el0 f) [.ref q658018, .int p658019] (va_pl P658016 F658017) (pg_658028_SpillForgeModel_give D I γ0 el0 f fo B P658016 F658017 q658018 p658019 q658020 q658021) gNA := by
  refine CtA_of hl0 (by decide) (Nat.le_of_ble_eq_true rfl) ?_
  have bp658019 := gB_any p658019
  obtain ⟨gm_0, hγ0⟩ : ∃ z, z = γ0 := ⟨_, rfl⟩
  obtain ⟨el_0, hel0⟩ : ∃ z, z = el0 := ⟨_, rfl⟩
  have hT : RS D I P658016 F658017 gm_0 el_0 := by rw [hγ0, hel0]; exact hT0
  have hst : rSk f [1, 2, 3, 101, 102, 103, 202] ([1, 2, 3, 4, 5, 6, 7, 8, 9, 101, 102, 103, 202] ++ npk) D I P658016 F658017 γ0 el0 P658016 F658017 gm_0 el_0 := by rw [hγ0, hel0]; exact rSk_rf hT0
  have hph : rPh γ0 el0 f ≤ rPh gm_0 el_0 f := by rw [hγ0, hel0]; exact Nat.le_refl _
  have hB : rBd gm_0 el_0 f B := by rw [hγ0, hel0]; exact hB0
  have htq658018 : rKd gm_0 q658018 10 := by rw [hγ0]; exact hzq658018
  have htq658020 : rKd gm_0 q658020 9 := by rw [hγ0]; exact hzq658020
  have htq658021 : rKd gm_0 q658021 9 := by rw [hγ0]; exact hzq658021
  have hf1 : gm_0 1 q658020 = f := by rw [hγ0]; exact hf0
  have hfo1 : gm_0 1 q658021 = fo := by rw [hγ0]; exact hfo0
  have x658024n : ((fI (F658017 q658018) 9).toInt = 0 ∨ (0 < gm_0 6 fo ∧ gm_0 16 fo ≤ 160)) := by rw [hγ0]; exact x658024
  have x658025n : gm_0 7 fo = 0 := by rw [hγ0]; exact x658025
  have x658027n : ((fI (F658017 q658018) 10).toInt = 0 ∨ 0 < gm_0 6 f) := by rw [hγ0]; exact x658027
  have pk658029 : rPh gm_0 el_0 f ≤ 387 * B + 6000 := rm_pk (rM_ge hT htq658020 hf1).1 (rM_bd hB)
  refine G_widen (cs' := ((rPh gm_0 el_0 f - rPh γ0 el0 f) / 18)) (sl' := (rPh gm_0 el_0 f - rPh γ0 el0 f)) (Nat.zero_le _) (Nat.zero_le _) ?_
  have lz0 : Int32.toInt 0 = 0 := by decide
  have r658030 : gm_0 6 f = γ0 6 f := by rw [hγ0]
  have r658031 : gm_0 7 f = γ0 7 f := by rw [hγ0]
  have r658032 : gm_0 16 f = γ0 16 f := by rw [hγ0]
  have r658033 : gm_0 18 f = γ0 18 f := by rw [hγ0]
  have r658034 : gm_0 19 f = γ0 19 f := by rw [hγ0]
  have hm658035 : q658018 ∈ P658016 := RS_m hT htq658018 (by decide)
  refine rk10_e (show rk_10 gm_0 (F658017 q658018) from RS_o hT htq658018) (fun q658037 q658038 p658039 p658040 p658041 p658042 p658043 p658044 p658045 p658046 p658047 p658048 p658049 p658050 p658051 p658052 p658053 he658036 hB658080 ht658054 ht658055 ht658056 ht658057 ht658058 ht658059 ht658060 ht658061 ht658062 ht658063 ht658064 ht658065 ht658066 ht658067 ht658068 ht658069 ht658070 ht658071 ht658072 ht658073 ht658074 ht658075 ht658076 ht658077 hB658081 => ?_)
  have ac0_9 : (fI (F658017 q658018) 9).toInt = p658039.toInt := by rw [he658036]; rfl
  have ac0_10 : (fI (F658017 q658018) 10).toInt = p658040.toInt := by rw [he658036]; rfl
  have ac0_32 : (fI (F658017 q658018) 32).toInt = p658051.toInt := by rw [he658036]; rfl
  have r658082 : gm_0 6 fo = γ0 6 fo := by rw [hγ0]
  have r658083 : gm_0 7 fo = γ0 7 fo := by rw [hγ0]
  have r658084 : gm_0 16 fo = γ0 16 fo := by rw [hγ0]
  refine G_aload_n 0 dr_cX17_give_0 rfl ?_
  refine G_iconst 0 dr_cX17_give_1 (by decide +kernel) ?_
  refine Gp_put 30 hm658035 he658036 dr_cX17_give_2 (gk_X17 D I) (Nat.le_of_ble_eq_true rfl) wr_7_104 rfl rfl rfl (Nat.le_of_ble_eq_true rfl) (fun F658085 e658086 n658087 => ?_)
  have he658088 : F658085 q658018 = .inr (22, [.ref (gm_0 9 0), .ref (gm_0 9 1), .ref (gm_0 9 2), .ref (gm_0 9 3), .ref (gm_0 9 4), .ref (gm_0 9 5), .ref (gm_0 9 6), .ref (gm_0 9 7), .ref (gm_0 9 8), .int p658039, .int p658040, .int p658041, .int p658042, .int p658043, .int p658044, .ref (gm_0 9 15), .ref (gm_0 9 16), .ref (gm_0 9 17), .ref (gm_0 9 18), .ref (gm_0 9 19), .ref (gm_0 9 20), .ref (gm_0 9 21), .ref (gm_0 9 22), .int p658045, .int p658046, .int p658047, .int p658048, .int p658049, .ref q658037, .ref (gm_0 9 29), .int 0, .ref (gm_0 9 31), .int p658051, .int p658052, .int p658053, .ref q658038]) := e658086
  have mk658089 : mKq (F658017 q658018) (F658085 q658018) := mKq_tr mKq_rf (by rw [he658036, he658088]; exact ⟨rfl, rfl⟩)
  have fq658090 : F658085 q658018 = cF (F658017 q658018) 30 (.int 0) := by rw [he658088, he658036]; rfl
  have hT658091 : RS D I P658016 F658085 gm_0 el_0 := RS_set hT n658087 htq658018 (by decide) ⟨q658037, q658038, p658039, p658040, p658041, p658042, p658043, p658044, p658045, p658046, p658047, p658048, p658049, 0, p658051, p658052, p658053, he658088, ⟨(hB658080.1), (hB658080.2.1), (hB658080.2.2.1), (hB658080.2.2.2.1), (hB658080.2.2.2.2.1), (hB658080.2.2.2.2.2.1), (hB658080.2.2.2.2.2.2.1), (hB658080.2.2.2.2.2.2.2.1), (hB658080.2.2.2.2.2.2.2.2)⟩, ht658054, ht658055, ht658056, ht658057, ht658058, ht658059, ht658060, ht658061, ht658062, ht658063, ht658064, ht658065, ht658066, ht658067, ht658068, ht658069, ht658070, ht658071, ht658072, ht658073, ht658074, ht658075, ht658076, ht658077, hB658081⟩
  have hs658092 := rSk_put hst hT658091 n658087 htq658018 (by decide) (by decide) (Or.inr (Or.inr (by decide)))
  have ac658093 : (fI (F658085 q658018) 10).toInt = p658040.toInt := by rw [he658088]; rfl
  refine G_iload_n 1 dr_cX17_give_5 rfl ?_
  refine G_iconst 1 dr_cX17_give_6 (by decide +kernel) ?_
  refine G_icmp_lt 16 dr_cX17_give_7 (by decide +kernel) (fun hc658094 => ?_) (fun hc658094 => ?_)
  · have r658095 : p658019.toInt < 1 := gj_lt hc658094 (show Int32.toInt 1 = 1 by decide)
    have bp658019' : gB p658019 (-2147483648) 0 := ⟨by omega, by omega⟩
    refine G_aload_n 0 dr_cX17_give_16 rfl ?_
    refine G_iconst 1 dr_cX17_give_17 (by decide +kernel) ?_
    refine Gw_callV (As := [.int 1]) (gV_ok D I) (ct_589686_SpillForgeModel_no l hl0 D I gm_0 el_0 P658016 F658085 q658018 1 hT658091 htq658018) dr_cX17_give_18 ⟨wr_7_191, wr_1_14, wr_7_194, by decide, rfl, (Nat.le_of_ble_eq_true rfl), (Nat.le_of_ble_eq_true rfl)⟩ wr_7_193 wr_p_73 hm658035 he658088 rfl (rm_zc pk658029) (rm_zs pk658029) (Nat.le_of_ble_eq_true rfl) (fun r658099 w658100 dc658096 ds658097 hp658098 => ?_) (fun _ _ _ _ _ z => z.elim)
    obtain ⟨F658104, rfl, rfl, hT658105, hs658106, hdc, hds, x658101, x658102, ht658103⟩ := hp658098
    have hs658107 := rSk_str hs658092 hT658105 hs658106 (by decide) (by decide) (by decide)
    have mk658108 : mKq (F658017 q658018) (F658104 q658018) := mKq_tr mk658089 x658102
    change G _ _ _ _ _ _ _ (.int 0 :: _) _ _ _
    refine G_widen (cs' := ((rPh gm_0 el_0 f - rPh γ0 el0 f) / 18)) (sl' := (rPh gm_0 el_0 f - rPh γ0 el0 f)) (rm_d0 hdc) (rm_d0 hds) ?_
    have hm658109 : q658018 ∈ P658016 := RS_m hT658105 htq658018 (by decide)
    refine rk10_e (show rk_10 gm_0 (F658104 q658018) from RS_o hT658105 htq658018) (fun q658111 q658112 p658113 p658114 p658115 p658116 p658117 p658118 p658119 p658120 p658121 p658122 p658123 p658124 p658125 p658126 p658127 he658110 hB658154 ht658128 ht658129 ht658130 ht658131 ht658132 ht658133 ht658134 ht658135 ht658136 ht658137 ht658138 ht658139 ht658140 ht658141 ht658142 ht658143 ht658144 ht658145 ht658146 ht658147 ht658148 ht658149 ht658150 ht658151 hB658155 => ?_)
    have ac658156 : (fI (F658104 q658018) 9).toInt = p658113.toInt := by rw [he658110]; rfl
    have ac658157 : (fI (F658104 q658018) 10).toInt = p658114.toInt := by rw [he658110]; rfl
    have ac658158 : (fI (F658104 q658018) 32).toInt = p658125.toInt := by rw [he658110]; rfl
    exact G_iretA dr_cX17_give_21 rfl (show ((rPh gm_0 el_0 f - rPh γ0 el0 f) / 18) ≤ (((387 * B + 6000) - rPh γ0 el0 f) / 18) by omega) (show (rPh gm_0 el_0 f - rPh γ0 el0 f) ≤ ((387 * B + 6000) - rPh γ0 el0 f) by omega) ⟨P658016, F658104, gm_0, el_0, 0, rfl, rfl, hs658107, ⟨by omega, by omega⟩, hB, (gB_w (gBl (show Int32.toInt 0 = 0 by decide)) (by decide) (by decide)), (by have qa0 : Int32.toInt 0 = 0 := (by decide); omega), mk658108, (fun R c1 c2 c3 c4 c5 => c1 gm_0 el_0 F658085 F658104 hγ0 hel0 n658087 fq658090 r658095 hT658105 hs658106 x658101 x658102 ht658103)⟩
  · have r658159 : 1 ≤ p658019.toInt := gj_nlt hc658094 (show Int32.toInt 1 = 1 by decide)
    have bp658019' : gB p658019 1 2147483647 := ⟨by omega, by omega⟩
    refine G_iload_n 1 dr_cX17_give_10 rfl ?_
    refine G_bipush 32 dr_cX17_give_11 (by decide +kernel) ?_
    refine G_icmp_le 22 dr_cX17_give_13 (by decide +kernel) (fun hc658160 => ?_) (fun hc658160 => ?_)
    · have r658161 : p658019.toInt ≤ 32 := gj_le hc658160 (show Int32.toInt 32 = 32 by decide)
      have bp658019'' : gB p658019 1 32 := ⟨by omega, by omega⟩
      refine G_aload_n 0 dr_cX17_give_22 rfl ?_
      have fq658162 : fI (F658085 q658018) 9 = p658039 := by rw [he658088]; rfl
      refine Gp_get 9 hm658035 he658088 dr_cX17_give_23 (gk_X17 D I) (Nat.le_of_ble_eq_true rfl) wr_7_83 rfl ?_
      have bp658039 : gB p658039 0 1 := (hB658080.1)
      refine G_if_ne 35 dr_cX17_give_26 (by decide +kernel) (fun hc658163 => ?_) (fun hc658163 => ?_)
      · have r658164 : p658039.toInt ≠ 0 := gj_neq hc658163 (show Int32.toInt 0 = 0 by decide)
        have bp658039' : gB p658039 1 1 := gB_t1 bp658039 r658164
        refine G_aload_n 0 dr_cX17_give_35 rfl ?_
        have fq658165 : fR (F658085 q658018) 7 = (gm_0 9 7) := by rw [he658088]; rfl
        refine Gp_get 7 hm658035 he658088 dr_cX17_give_36 (gk_X17 D I) (Nat.le_of_ble_eq_true rfl) wr_7_81 rfl ?_
        rw [show gm_0 9 7 = q658020 from (congrFun (rSk_9 hs658092) 7).trans hvq658020]
        refine G_aload_n 0 dr_cX17_give_39 rfl ?_
        have fq658166 : fR (F658085 q658018) 6 = (gm_0 9 6) := by rw [he658088]; rfl
        refine Gp_get 6 hm658035 he658088 dr_cX17_give_40 (gk_X17 D I) (Nat.le_of_ble_eq_true rfl) wr_7_80 rfl ?_
        rw [show gm_0 9 6 = q658021 from (congrFun (rSk_9 hs658092) 6).trans hvq658021]
        have rg658167 := rM_ge hT658091 htq658020 hf1
        have rm658168 := rM_bd hB
        have bd658169 := rBd_c hT658091 htq658020 hf1 hB
        have rc658170 := rc_at hT658091 htq658020 hf1
        have hm658176 : q658020 ∈ P658016 := RS_m hT658091 htq658020 (by decide)
        obtain ⟨q658178, q658179, p658180, p658181, he658177, ht658197, ht658182, ht658183, ht658184, ht658185, r658186, r658187, r658188, r658189, r658190, r658191, r658192, r658193, r658194, r658195, r658196⟩ := show rk_9 gm_0 el_0 q658020 (F658085 q658020) from RS_o hT658091 htq658020
        have bp658180 : gB p658180 0 1000000 := ⟨by omega, by omega⟩
        have bp658181 : gB p658181 0 1000000 := ⟨by omega, by omega⟩
        have hf658198 : gm_0 1 q658178 = f := (show gm_0 1 q658178 = gm_0 1 q658020 from ht658183).trans hf1
        have hf658199 : gm_0 1 q658179 = f := (show gm_0 1 q658179 = gm_0 1 q658020 from ht658185).trans hf1
        have r658200 : gm_0 6 (gm_0 1 q658020) = gm_0 6 f := by rw [hf1]
        have r658201 : gm_0 16 (gm_0 1 q658020) = gm_0 16 f := by rw [hf1]
        refine Gw_callV (As := [.ref q658021]) (gV_ok D I) (cg_196677_Code_copy l hl0 D I gm_0 el_0 f fo B P658016 F658085 q658020 q658021 hT658091 htq658020 htq658021 hf1 hfo1 hne hB hBk (by omega) (by omega) (by omega)) dr_cX17_give_43 ⟨wr_10_132, wr_1_15, wr_10_135, by decide, rfl, (Nat.le_of_ble_eq_true rfl), (Nat.le_of_ble_eq_true rfl)⟩ wr_10_133 wr_10_134 hm658176 he658177 rfl (rm_gc hph pk658029) (rm_gs hph pk658029) (Nat.le_of_ble_eq_true rfl) (fun r658174 w658175 dc658171 ds658172 hp658173 => ?_) (fun _ _ _ _ _ z => z.elim)
        obtain ⟨P658207, F658208, gm_F658208, el_F658208, rfl, rfl, hk658209, ⟨hr658210, hr658211⟩, hB658212, x658202, x658203, x658204, x658205, ht658206⟩ := hp658173
        have hT658213 := hk658209.1
        have hs658214 := rSk_tr hs658092 hk658209 (by decide) (by decide) (by decide)
        have kp658215 : F658208 q658018 = F658085 q658018 := rSk_F hk658209 htq658018 (by decide) (by decide)
        have r658216 := rSk_F hk658209 htq658018 (by decide) (by decide)
        have ht658217 : rKd gm_F658208 q658018 10 := rSk_k hk658209 htq658018 (by decide) (by decide)
        have ht658218 : rKd gm_F658208 q658020 9 := rSk_k hk658209 htq658020 (by decide) (by decide)
        have hf658219 : gm_F658208 1 q658020 = f := rSk_1 hk658209 htq658020 (by decide) hf1
        have ht658220 : rKd gm_F658208 q658021 9 := rSk_kf hk658209 htq658021 (by decide) (by rw [hfo1]; exact hne)
        have hf658221 : gm_F658208 1 q658021 = fo := rSk_1 hk658209 htq658021 (by decide) hfo1
        have mk658222 : mKq (F658017 q658018) (F658208 q658018) := mKq_tr mk658089 (mKp_q (mKp_eq (rSk_F hk658209 htq658018 (by decide) (by decide))))
        clear r658186 r658187 r658188 r658189 r658190 r658191 r658193 r658194 r658195 r658196 bp658180 bp658181 rg658167 rm658168 bd658169 rc658170
        clear r658192
        have hph658223 : rPh γ0 el0 f ≤ rPh gm_F658208 el_F658208 f := rm_ph hph hr658211
        have pk658224 : rPh gm_F658208 el_F658208 f ≤ 387 * B + 6000 := rm_pk (rM_ge hT658213 ht658218 hf658219).1 (rM_bd hB658212)
        change G _ _ _ _ _ _ _ _ _ _ _
        refine G_widen (cs' := ((rPh gm_F658208 el_F658208 f - rPh γ0 el0 f) / 18)) (sl' := (rPh gm_F658208 el_F658208 f - rPh γ0 el0 f)) (rm_wc hph hr658210) (rm_ws hph hr658211) ?_
        have r658225 := rSk_g hs658214 hne
        have r658226 : gm_F658208 6 fo = γ0 6 fo := r658225.1
        have r658227 : gm_F658208 7 fo = γ0 7 fo := r658225.2.1
        have r658228 : gm_F658208 16 fo = γ0 16 fo := r658225.2.2.1
        have r658229 : 0 < gm_F658208 6 (gm_F658208 1 q658020) := by rw [hf658219]; omega
        refine G_aload_n 0 dr_cX17_give_46 rfl ?_
        refine G_aload_n 0 dr_cX17_give_47 rfl ?_
        have hm658230 : q658018 ∈ P658207 := RS_m hT658213 ht658217 (by decide)
        refine rk10_e (show rk_10 gm_F658208 (F658208 q658018) from RS_o hT658213 ht658217) (fun q658232 q658233 p658234 p658235 p658236 p658237 p658238 p658239 p658240 p658241 p658242 p658243 p658244 p658245 p658246 p658247 p658248 he658231 hB658275 ht658249 ht658250 ht658251 ht658252 ht658253 ht658254 ht658255 ht658256 ht658257 ht658258 ht658259 ht658260 ht658261 ht658262 ht658263 ht658264 ht658265 ht658266 ht658267 ht658268 ht658269 ht658270 ht658271 ht658272 hB658276 => ?_)
        have fq658277 : fR (F658208 q658018) 7 = (gm_F658208 9 7) := by rw [he658231]; rfl
        refine Gp_get 7 hm658230 he658231 dr_cX17_give_48 (gk_X17 D I) (Nat.le_of_ble_eq_true rfl) wr_7_81 rfl ?_
        rw [show gm_F658208 9 7 = q658020 from (congrFun (rSk_9 hs658214) 7).trans hvq658020]
        refine G_iload_n 1 dr_cX17_give_51 rfl ?_
        have rg658278 := rM_ge hT658213 ht658218 hf658219
        have rm658279 := rM_bd hB658212
        have bd658280 := rBd_c hT658213 ht658218 hf658219 hB658212
        have rc658281 := rc_at hT658213 ht658218 hf658219
        refine Gw_callV (As := [.ref q658020, .int p658019]) (gV_ok D I) (cg_632297_SpillForgeModel_giveAll l hl0 D I gm_F658208 el_F658208 f B P658207 F658208 q658018 q658020 p658019 hT658213 ht658217 ht658218 hf658219 hB658212 hBk bp658019'' (by omega) (by omega) (by omega)) dr_cX17_give_52 ⟨wr_10_148, wr_1_14, wr_10_151, by decide, rfl, (Nat.le_of_ble_eq_true rfl), (Nat.le_of_ble_eq_true rfl)⟩ wr_10_150 wr_p_92 hm658230 he658231 rfl (rm_gc hph658223 pk658224) (rm_gs hph658223 pk658224) (Nat.le_of_ble_eq_true rfl) (fun r658285 w658286 dc658282 ds658283 hp658284 => ?_) (fun _ _ _ _ _ z => z.elim)
        obtain ⟨P658291, F658292, gm_F658292, el_F658292, o658287, rfl, rfl, hk658293, ⟨hr658294, hr658295⟩, hB658296, bo658287, x658288, x658289, ht658290⟩ := hp658284
        have hT658297 := hk658293.1
        have hs658298 := rSk_tr hs658214 hk658293 (by decide) (by decide) (by decide)
        have ht658299 : rKd gm_F658292 q658018 10 := rSk_k hk658293 ht658217 (by decide) (by decide)
        have ht658300 : rKd gm_F658292 q658020 9 := rSk_k hk658293 ht658218 (by decide) (by decide)
        have hf658301 : gm_F658292 1 q658020 = f := rSk_1 hk658293 ht658218 (by decide) hf658219
        have ht658302 : rKd gm_F658292 q658021 9 := rSk_kf hk658293 ht658220 (by decide) (by rw [hf658221]; exact hne)
        have hf658303 : gm_F658292 1 q658021 = fo := rSk_1 hk658293 ht658220 (by decide) hf658221
        clear rg658278 rm658279 bd658280 rc658281
        have mk658304 : mKq (F658017 q658018) (F658292 q658018) := mKq_tr mk658222 (mKp_q x658289)
        have hph658305 : rPh γ0 el0 f ≤ rPh gm_F658292 el_F658292 f := rm_ph hph658223 hr658295
        have pk658306 : rPh gm_F658292 el_F658292 f ≤ 387 * B + 6000 := rm_pk (rM_ge hT658297 ht658300 hf658301).1 (rM_bd hB658296)
        change G _ _ _ _ _ _ _ (.int o658287 :: _) _ _ _
        refine G_widen (cs' := ((rPh gm_F658292 el_F658292 f - rPh γ0 el0 f) / 18)) (sl' := (rPh gm_F658292 el_F658292 f - rPh γ0 el0 f)) (rm_wc hph658223 hr658294) (rm_ws hph658223 hr658295) ?_
        have r658307 := rSk_g hs658298 hne
        have r658308 : gm_F658292 6 fo = γ0 6 fo := r658307.1
        have r658309 : gm_F658292 7 fo = γ0 7 fo := r658307.2.1
        have r658310 : gm_F658292 16 fo = γ0 16 fo := r658307.2.2.1
        have r658311 : 0 < gm_F658292 6 (gm_F658292 1 q658020) := by rw [hf658301]; omega
        refine G_istore_n (L' := [(2, .int o658287), (0, .ref q658018), (1, .int p658019)]) dr_cX17_give_55 (Nat.le_of_ble_eq_true rfl) rfl ?_
        refine G_aload_n 1 dr_cX17_give_56 rfl ?_
        refine G_iload_n 0 dr_cX17_give_57 rfl ?_
        refine G_if_le 65 dr_cX17_give_58 (by decide +kernel) (fun hc658312 => ?_) (fun hc658312 => ?_)
        · have r658313 : o658287.toInt ≤ 0 := gj_le hc658312 (show Int32.toInt 0 = 0 by decide)
          have bo658287' : gB o658287 (-1) 0 := ⟨by omega, by omega⟩
          refine G_iconst 0 dr_cX17_give_65 (by decide +kernel) ?_
          have hm658314 : q658018 ∈ P658291 := RS_m hT658297 ht658299 (by decide)
          refine rk10_e (show rk_10 gm_F658292 (F658292 q658018) from RS_o hT658297 ht658299) (fun q658316 q658317 p658318 p658319 p658320 p658321 p658322 p658323 p658324 p658325 p658326 p658327 p658328 p658329 p658330 p658331 p658332 he658315 hB658359 ht658333 ht658334 ht658335 ht658336 ht658337 ht658338 ht658339 ht658340 ht658341 ht658342 ht658343 ht658344 ht658345 ht658346 ht658347 ht658348 ht658349 ht658350 ht658351 ht658352 ht658353 ht658354 ht658355 ht658356 hB658360 => ?_)
          refine Gp_put 10 hm658314 he658315 dr_cX17_give_66 (gk_X17 D I) (Nat.le_of_ble_eq_true rfl) wr_7_84 rfl rfl rfl (Nat.le_of_ble_eq_true rfl) (fun F658361 e658362 n658363 => ?_)
          have he658364 : F658361 q658018 = .inr (22, [.ref (gm_F658292 9 0), .ref (gm_F658292 9 1), .ref (gm_F658292 9 2), .ref (gm_F658292 9 3), .ref (gm_F658292 9 4), .ref (gm_F658292 9 5), .ref (gm_F658292 9 6), .ref (gm_F658292 9 7), .ref (gm_F658292 9 8), .int p658318, .int 0, .int p658320, .int p658321, .int p658322, .int p658323, .ref (gm_F658292 9 15), .ref (gm_F658292 9 16), .ref (gm_F658292 9 17), .ref (gm_F658292 9 18), .ref (gm_F658292 9 19), .ref (gm_F658292 9 20), .ref (gm_F658292 9 21), .ref (gm_F658292 9 22), .int p658324, .int p658325, .int p658326, .int p658327, .int p658328, .ref q658316, .ref (gm_F658292 9 29), .int p658329, .ref (gm_F658292 9 31), .int p658330, .int p658331, .int p658332, .ref q658317]) := e658362
          have mk658365 : mKq (F658017 q658018) (F658361 q658018) := mKq_tr mk658304 (by rw [he658315, he658364]; exact ⟨rfl, rfl⟩)
          have fq658366 : F658361 q658018 = cF (F658292 q658018) 10 (.int 0) := by rw [he658364, he658315]; rfl
          refine G_iload_n 0 dr_cX17_give_69 rfl ?_
          have hT658367 : RS D I P658291 F658361 gm_F658292 el_F658292 := RS_set hT658297 n658363 ht658299 (by decide) ⟨q658316, q658317, p658318, 0, p658320, p658321, p658322, p658323, p658324, p658325, p658326, p658327, p658328, p658329, p658330, p658331, p658332, he658364, ⟨(hB658359.1), (gB_w (gBl (show Int32.toInt 0 = 0 by decide)) (by decide) (by decide)), (hB658359.2.2.1), (hB658359.2.2.2.1), (hB658359.2.2.2.2.1), (hB658359.2.2.2.2.2.1), (hB658359.2.2.2.2.2.2.1), (hB658359.2.2.2.2.2.2.2.1), (hB658359.2.2.2.2.2.2.2.2)⟩, ht658333, ht658334, ht658335, ht658336, ht658337, ht658338, ht658339, ht658340, ht658341, ht658342, ht658343, ht658344, ht658345, ht658346, ht658347, ht658348, ht658349, ht658350, ht658351, ht658352, ht658353, ht658354, ht658355, ht658356, ⟨(show (_ ∨ _ ∨ _) ∧ (_ ∨ _ ∨ _) ∧ _ from hB658360).1, Or.inr (Or.inl (by have z : 0 < gm_F658292 6 f := (by omega); rw [x658022] at z; exact z)), (show (_ ∨ _ ∨ _) ∧ (_ ∨ _ ∨ _) ∧ _ from hB658360).2.2⟩⟩
          have hs658368 := rSk_put hs658298 hT658367 n658363 ht658299 (by decide) (by decide) (Or.inr (Or.inr (by decide)))
          have ac658369 : (fI (F658361 q658018) 9).toInt = p658318.toInt := by rw [he658364]; rfl
          have ac658370 : (fI (F658361 q658018) 10).toInt = 0 := by rw [he658364]; show Int32.toInt 0 = 0; decide
          have ac658371 : (fI (F658361 q658018) 32).toInt = p658330.toInt := by rw [he658364]; rfl
          have mq658372 : mKq _ _ := mk658304
          exact G_iretA dr_cX17_give_70 rfl (show ((rPh gm_F658292 el_F658292 f - rPh γ0 el0 f) / 18) ≤ (((387 * B + 6000) - rPh γ0 el0 f) / 18) by omega) (show (rPh gm_F658292 el_F658292 f - rPh γ0 el0 f) ≤ ((387 * B + 6000) - rPh γ0 el0 f) by omega) ⟨P658291, F658361, gm_F658292, el_F658292, o658287, rfl, rfl, hs658368, ⟨by omega, by omega⟩, hB658296, (gB_w bo658287' (by decide) (by decide)), (by omega), mk658365, (fun R c1 c2 c3 c4 c5 => c2 gm_0 el_0 F658085 p658039 P658207 F658208 gm_F658208 el_F658208 P658291 F658292 gm_F658292 el_F658292 o658287 F658361 hγ0 hel0 n658087 fq658090 r658159 r658161 fq658162 r658164 fq658165 fq658166 hk658209 x658202 x658203 x658204 x658205 ht658206 fq658277 hk658293 x658288 x658289 ht658290 r658313 n658363 fq658366)⟩
        · have r658373 : 0 < o658287.toInt := gj_nle hc658312 (show Int32.toInt 0 = 0 by decide)
          have bo658287' : gB o658287 1 40 := ⟨by omega, by omega⟩
          refine G_iconst 1 dr_cX17_give_61 (by decide +kernel) ?_
          refine G_goto 66 dr_cX17_give_62 (by decide +kernel) ?_
          have hm658374 : q658018 ∈ P658291 := RS_m hT658297 ht658299 (by decide)
          refine rk10_e (show rk_10 gm_F658292 (F658292 q658018) from RS_o hT658297 ht658299) (fun q658376 q658377 p658378 p658379 p658380 p658381 p658382 p658383 p658384 p658385 p658386 p658387 p658388 p658389 p658390 p658391 p658392 he658375 hB658419 ht658393 ht658394 ht658395 ht658396 ht658397 ht658398 ht658399 ht658400 ht658401 ht658402 ht658403 ht658404 ht658405 ht658406 ht658407 ht658408 ht658409 ht658410 ht658411 ht658412 ht658413 ht658414 ht658415 ht658416 hB658420 => ?_)
          refine Gp_put 10 hm658374 he658375 dr_cX17_give_66 (gk_X17 D I) (Nat.le_of_ble_eq_true rfl) wr_7_84 rfl rfl rfl (Nat.le_of_ble_eq_true rfl) (fun F658421 e658422 n658423 => ?_)
          have he658424 : F658421 q658018 = .inr (22, [.ref (gm_F658292 9 0), .ref (gm_F658292 9 1), .ref (gm_F658292 9 2), .ref (gm_F658292 9 3), .ref (gm_F658292 9 4), .ref (gm_F658292 9 5), .ref (gm_F658292 9 6), .ref (gm_F658292 9 7), .ref (gm_F658292 9 8), .int p658378, .int 1, .int p658380, .int p658381, .int p658382, .int p658383, .ref (gm_F658292 9 15), .ref (gm_F658292 9 16), .ref (gm_F658292 9 17), .ref (gm_F658292 9 18), .ref (gm_F658292 9 19), .ref (gm_F658292 9 20), .ref (gm_F658292 9 21), .ref (gm_F658292 9 22), .int p658384, .int p658385, .int p658386, .int p658387, .int p658388, .ref q658376, .ref (gm_F658292 9 29), .int p658389, .ref (gm_F658292 9 31), .int p658390, .int p658391, .int p658392, .ref q658377]) := e658422
          have mk658425 : mKq (F658017 q658018) (F658421 q658018) := mKq_tr mk658304 (by rw [he658375, he658424]; exact ⟨rfl, rfl⟩)
          have fq658426 : F658421 q658018 = cF (F658292 q658018) 10 (.int 1) := by rw [he658424, he658375]; rfl
          refine G_iload_n 0 dr_cX17_give_69 rfl ?_
          have hT658427 : RS D I P658291 F658421 gm_F658292 el_F658292 := RS_set hT658297 n658423 ht658299 (by decide) ⟨q658376, q658377, p658378, 1, p658380, p658381, p658382, p658383, p658384, p658385, p658386, p658387, p658388, p658389, p658390, p658391, p658392, he658424, ⟨(hB658419.1), (gB_w (gBl (show Int32.toInt 1 = 1 by decide)) (by decide) (by decide)), (hB658419.2.2.1), (hB658419.2.2.2.1), (hB658419.2.2.2.2.1), (hB658419.2.2.2.2.2.1), (hB658419.2.2.2.2.2.2.1), (hB658419.2.2.2.2.2.2.2.1), (hB658419.2.2.2.2.2.2.2.2)⟩, ht658393, ht658394, ht658395, ht658396, ht658397, ht658398, ht658399, ht658400, ht658401, ht658402, ht658403, ht658404, ht658405, ht658406, ht658407, ht658408, ht658409, ht658410, ht658411, ht658412, ht658413, ht658414, ht658415, ht658416, ⟨(show (_ ∨ _ ∨ _) ∧ (_ ∨ _ ∨ _) ∧ _ from hB658420).1, Or.inr (Or.inl (by have z : 0 < gm_F658292 6 f := (by omega); rw [x658022] at z; exact z)), (show (_ ∨ _ ∨ _) ∧ (_ ∨ _ ∨ _) ∧ _ from hB658420).2.2⟩⟩
          have hs658428 := rSk_put hs658298 hT658427 n658423 ht658299 (by decide) (by decide) (Or.inr (Or.inr (by decide)))
          have ac658429 : (fI (F658421 q658018) 9).toInt = p658378.toInt := by rw [he658424]; rfl
          have ac658430 : (fI (F658421 q658018) 10).toInt = 1 := by rw [he658424]; show Int32.toInt 1 = 1; decide
          have ac658431 : (fI (F658421 q658018) 32).toInt = p658390.toInt := by rw [he658424]; rfl
          have mq658432 : mKq _ _ := mk658304
          exact G_iretA dr_cX17_give_70 rfl (show ((rPh gm_F658292 el_F658292 f - rPh γ0 el0 f) / 18) ≤ (((387 * B + 6000) - rPh γ0 el0 f) / 18) by omega) (show (rPh gm_F658292 el_F658292 f - rPh γ0 el0 f) ≤ ((387 * B + 6000) - rPh γ0 el0 f) by omega) ⟨P658291, F658421, gm_F658292, el_F658292, o658287, rfl, rfl, hs658428, ⟨by omega, by omega⟩, hB658296, (gB_w bo658287' (by decide) (by decide)), (by omega), mk658425, (fun R c1 c2 c3 c4 c5 => c3 gm_0 el_0 F658085 p658039 P658207 F658208 gm_F658208 el_F658208 P658291 F658292 gm_F658292 el_F658292 o658287 F658421 hγ0 hel0 n658087 fq658090 r658159 r658161 fq658162 r658164 fq658165 fq658166 hk658209 x658202 x658203 x658204 x658205 ht658206 fq658277 hk658293 x658288 x658289 ht658290 r658373 n658423 fq658426)⟩
      · have r658433 : p658039.toInt = 0 := gj_eq hc658163 (show Int32.toInt 0 = 0 by decide)
        have bp658039' : gB p658039 0 0 := gB_t0 r658433
        refine G_aload_n 0 dr_cX17_give_29 rfl ?_
        refine G_iconst 2 dr_cX17_give_30 (by decide +kernel) ?_
        refine Gw_callV (As := [.int 2]) (gV_ok D I) (ct_589686_SpillForgeModel_no l hl0 D I gm_0 el_0 P658016 F658085 q658018 2 hT658091 htq658018) dr_cX17_give_31 ⟨wr_7_191, wr_1_14, wr_7_194, by decide, rfl, (Nat.le_of_ble_eq_true rfl), (Nat.le_of_ble_eq_true rfl)⟩ wr_7_193 wr_p_73 hm658035 he658088 rfl (rm_zc pk658029) (rm_zs pk658029) (Nat.le_of_ble_eq_true rfl) (fun r658437 w658438 dc658434 ds658435 hp658436 => ?_) (fun _ _ _ _ _ z => z.elim)
        obtain ⟨F658442, rfl, rfl, hT658443, hs658444, hdc, hds, x658439, x658440, ht658441⟩ := hp658436
        have hs658445 := rSk_str hs658092 hT658443 hs658444 (by decide) (by decide) (by decide)
        have mk658446 : mKq (F658017 q658018) (F658442 q658018) := mKq_tr mk658089 x658440
        change G _ _ _ _ _ _ _ (.int 0 :: _) _ _ _
        refine G_widen (cs' := ((rPh gm_0 el_0 f - rPh γ0 el0 f) / 18)) (sl' := (rPh gm_0 el_0 f - rPh γ0 el0 f)) (rm_d0 hdc) (rm_d0 hds) ?_
        have hm658447 : q658018 ∈ P658016 := RS_m hT658443 htq658018 (by decide)
        refine rk10_e (show rk_10 gm_0 (F658442 q658018) from RS_o hT658443 htq658018) (fun q658449 q658450 p658451 p658452 p658453 p658454 p658455 p658456 p658457 p658458 p658459 p658460 p658461 p658462 p658463 p658464 p658465 he658448 hB658492 ht658466 ht658467 ht658468 ht658469 ht658470 ht658471 ht658472 ht658473 ht658474 ht658475 ht658476 ht658477 ht658478 ht658479 ht658480 ht658481 ht658482 ht658483 ht658484 ht658485 ht658486 ht658487 ht658488 ht658489 hB658493 => ?_)
        have ac658494 : (fI (F658442 q658018) 9).toInt = p658451.toInt := by rw [he658448]; rfl
        have ac658495 : (fI (F658442 q658018) 10).toInt = p658452.toInt := by rw [he658448]; rfl
        have ac658496 : (fI (F658442 q658018) 32).toInt = p658463.toInt := by rw [he658448]; rfl
        exact G_iretA dr_cX17_give_34 rfl (show ((rPh gm_0 el_0 f - rPh γ0 el0 f) / 18) ≤ (((387 * B + 6000) - rPh γ0 el0 f) / 18) by omega) (show (rPh gm_0 el_0 f - rPh γ0 el0 f) ≤ ((387 * B + 6000) - rPh γ0 el0 f) by omega) ⟨P658016, F658442, gm_0, el_0, 0, rfl, rfl, hs658445, ⟨by omega, by omega⟩, hB, (gB_w (gBl (show Int32.toInt 0 = 0 by decide)) (by decide) (by decide)), (by have qa0 : Int32.toInt 0 = 0 := (by decide); omega), mk658446, (fun R c1 c2 c3 c4 c5 => c4 gm_0 el_0 F658085 p658039 F658442 hγ0 hel0 n658087 fq658090 r658159 r658161 fq658162 r658433 hT658443 hs658444 x658439 x658440 ht658441)⟩
    · have r658497 : 32 < p658019.toInt := gj_nle hc658160 (show Int32.toInt 32 = 32 by decide)
      have bp658019'' : gB p658019 33 2147483647 := ⟨by omega, by omega⟩
      refine G_aload_n 0 dr_cX17_give_16 rfl ?_
      refine G_iconst 1 dr_cX17_give_17 (by decide +kernel) ?_
      refine Gw_callV (As := [.int 1]) (gV_ok D I) (ct_589686_SpillForgeModel_no l hl0 D I gm_0 el_0 P658016 F658085 q658018 1 hT658091 htq658018) dr_cX17_give_18 ⟨wr_7_191, wr_1_14, wr_7_194, by decide, rfl, (Nat.le_of_ble_eq_true rfl), (Nat.le_of_ble_eq_true rfl)⟩ wr_7_193 wr_p_73 hm658035 he658088 rfl (rm_zc pk658029) (rm_zs pk658029) (Nat.le_of_ble_eq_true rfl) (fun r658501 w658502 dc658498 ds658499 hp658500 => ?_) (fun _ _ _ _ _ z => z.elim)
      obtain ⟨F658506, rfl, rfl, hT658507, hs658508, hdc, hds, x658503, x658504, ht658505⟩ := hp658500
      have hs658509 := rSk_str hs658092 hT658507 hs658508 (by decide) (by decide) (by decide)
      have mk658510 : mKq (F658017 q658018) (F658506 q658018) := mKq_tr mk658089 x658504
      change G _ _ _ _ _ _ _ (.int 0 :: _) _ _ _
      refine G_widen (cs' := ((rPh gm_0 el_0 f - rPh γ0 el0 f) / 18)) (sl' := (rPh gm_0 el_0 f - rPh γ0 el0 f)) (rm_d0 hdc) (rm_d0 hds) ?_
      have hm658511 : q658018 ∈ P658016 := RS_m hT658507 htq658018 (by decide)
      refine rk10_e (show rk_10 gm_0 (F658506 q658018) from RS_o hT658507 htq658018) (fun q658513 q658514 p658515 p658516 p658517 p658518 p658519 p658520 p658521 p658522 p658523 p658524 p658525 p658526 p658527 p658528 p658529 he658512 hB658556 ht658530 ht658531 ht658532 ht658533 ht658534 ht658535 ht658536 ht658537 ht658538 ht658539 ht658540 ht658541 ht658542 ht658543 ht658544 ht658545 ht658546 ht658547 ht658548 ht658549 ht658550 ht658551 ht658552 ht658553 hB658557 => ?_)
      have ac658558 : (fI (F658506 q658018) 9).toInt = p658515.toInt := by rw [he658512]; rfl
      have ac658559 : (fI (F658506 q658018) 10).toInt = p658516.toInt := by rw [he658512]; rfl
      have ac658560 : (fI (F658506 q658018) 32).toInt = p658527.toInt := by rw [he658512]; rfl
      exact G_iretA dr_cX17_give_21 rfl (show ((rPh gm_0 el_0 f - rPh γ0 el0 f) / 18) ≤ (((387 * B + 6000) - rPh γ0 el0 f) / 18) by omega) (show (rPh gm_0 el_0 f - rPh γ0 el0 f) ≤ ((387 * B + 6000) - rPh γ0 el0 f) by omega) ⟨P658016, F658506, gm_0, el_0, 0, rfl, rfl, hs658509, ⟨by omega, by omega⟩, hB, (gB_w (gBl (show Int32.toInt 0 = 0 by decide)) (by decide) (by decide)), (by have qa0 : Int32.toInt 0 = 0 := (by decide); omega), mk658510, (fun R c1 c2 c3 c4 c5 => c5 gm_0 el_0 F658085 F658506 hγ0 hel0 n658087 fq658090 r658159 r658497 hT658507 hs658508 x658503 x658504 ht658505)⟩
