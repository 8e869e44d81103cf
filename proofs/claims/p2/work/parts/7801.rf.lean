theorem dr_cX17_back_0 : decode cX17_back 0 = .ok (.aload_n 1, 1) := by decide +kernel
theorem dr_cX17_back_1 : decode cX17_back 1 = .ok (.iload_n 2, 1) := by decide +kernel
theorem dr_cX17_back_2 : decode cX17_back 2 = .ok (.invokestatic 55, 3) := by decide +kernel
theorem wr_10_178 : (Jvm.Cond.methodLink "SpillForgeModel" (55 : Nat) ({ cls := "SpillForgeModel", name := "setOf", desc := "(LSpillForgeModel$Row;Z)I" } : Jvm.MethodName)) ∈ gw := gw_10 178 rfl rfl
theorem wr_1_14 : (Jvm.Cond.initialized "SpillForgeModel") ∈ gw := gw_1 14 rfl rfl
theorem wr_10_180 : (Jvm.Cond.code ({ cls := "SpillForgeModel", name := "setOf", desc := "(LSpillForgeModel$Row;Z)I" } : Jvm.MethodName) prog_14_method_6_code (2 : Nat) (Option.some Jvm.ClassFile.FieldType.int)) ∈ gw := gw_10 180 rfl rfl
theorem wr_10_179 : (Jvm.Cond.static ({ cls := "SpillForgeModel", name := "setOf", desc := "(LSpillForgeModel$Row;Z)I" } : Jvm.MethodName)) ∈ gw := gw_10 179 rfl rfl
theorem dr_cX17_back_5 : decode cX17_back 5 = .ok (.istore_n 3, 1) := by decide +kernel
theorem dr_cX17_back_6 : decode cX17_back 6 = .ok (.iload_n 3, 1) := by decide +kernel
theorem dr_cX17_back_7 : decode cX17_back 7 = .ok (.ifCond .lt 11, 3) := by decide +kernel
theorem dr_cX17_back_18 : decode cX17_back 18 = .ok (.iload_n 2, 1) := by decide +kernel
theorem dr_cX17_back_19 : decode cX17_back 19 = .ok (.ifCond .eq 24, 3) := by decide +kernel
theorem dr_cX17_back_43 : decode cX17_back 43 = .ok (.aload_n 1, 1) := by decide +kernel
theorem dr_cX17_back_44 : decode cX17_back 44 = .ok (.invokevirtual 70, 3) := by decide +kernel
theorem wr_10_192 : (Jvm.Cond.methodLink "SpillForgeModel" (70 : Nat) ({ cls := "SpillForgeModel$Row", name := "usesA", desc := "()Z" } : Jvm.MethodName)) ∈ gw := gw_10 192 rfl rfl
theorem wr_10_195 : (Jvm.Cond.code ({ cls := "SpillForgeModel$Row", name := "usesA", desc := "()Z" } : Jvm.MethodName) prog_18_method_3_code (1 : Nat) (Option.some Jvm.ClassFile.FieldType.boolean)) ∈ gw := gw_10 195 rfl rfl
theorem wr_10_193 : (Jvm.Cond.instanceMethod ({ cls := "SpillForgeModel$Row", name := "usesA", desc := "()Z" } : Jvm.MethodName)) ∈ gw := gw_10 193 rfl rfl
theorem wr_10_194 : (Jvm.Cond.selects "SpillForgeModel$Row" ({ cls := "SpillForgeModel$Row", name := "usesA", desc := "()Z" } : Jvm.MethodName) ({ cls := "SpillForgeModel$Row", name := "usesA", desc := "()Z" } : Jvm.MethodName)) ∈ gw := gw_10 194 rfl rfl
theorem dr_cX17_back_47 : decode cX17_back 47 = .ok (.ifCond .eq 14, 3) := by decide +kernel
theorem dr_cX17_back_61 : decode cX17_back 61 = .ok (.aload_n 1, 1) := by decide +kernel
theorem dr_cX17_back_62 : decode cX17_back 62 = .ok (.invokevirtual 76, 3) := by decide +kernel
theorem wr_10_196 : (Jvm.Cond.methodLink "SpillForgeModel" (76 : Nat) ({ cls := "SpillForgeModel$Row", name := "usesB", desc := "()Z" } : Jvm.MethodName)) ∈ gw := gw_10 196 rfl rfl
theorem wr_10_199 : (Jvm.Cond.code ({ cls := "SpillForgeModel$Row", name := "usesB", desc := "()Z" } : Jvm.MethodName) prog_18_method_4_code (1 : Nat) (Option.some Jvm.ClassFile.FieldType.boolean)) ∈ gw := gw_10 199 rfl rfl
theorem wr_10_197 : (Jvm.Cond.instanceMethod ({ cls := "SpillForgeModel$Row", name := "usesB", desc := "()Z" } : Jvm.MethodName)) ∈ gw := gw_10 197 rfl rfl
theorem wr_10_198 : (Jvm.Cond.selects "SpillForgeModel$Row" ({ cls := "SpillForgeModel$Row", name := "usesB", desc := "()Z" } : Jvm.MethodName) ({ cls := "SpillForgeModel$Row", name := "usesB", desc := "()Z" } : Jvm.MethodName)) ∈ gw := gw_10 198 rfl rfl
theorem dr_cX17_back_65 : decode cX17_back 65 = .ok (.ifCond .eq 14, 3) := by decide +kernel
theorem dr_cX17_back_79 : decode cX17_back 79 = .ok (.return_, 1) := by decide +kernel
theorem dr_cX17_back_68 : decode cX17_back 68 = .ok (.aload_n 0, 1) := by decide +kernel
theorem dr_cX17_back_69 : decode cX17_back 69 = .ok (.getfield 59, 3) := by decide +kernel
theorem wr_7_76 : (Jvm.Cond.fieldLink "SpillForgeModel" (59 : Nat) "SpillForgeModel" "now" "[J") ∈ gw := gw_7 76 rfl rfl
theorem dr_cX17_back_72 : decode cX17_back 72 = .ok (.aload_n 1, 1) := by decide +kernel
theorem dr_cX17_back_73 : decode cX17_back 73 = .ok (.getfield 79, 3) := by decide +kernel
theorem wr_9_190 : (Jvm.Cond.fieldLink "SpillForgeModel" (79 : Nat) "SpillForgeModel$Row" "b" "I") ∈ gw := gw_9 190 rfl rfl
theorem dr_cX17_back_76 : decode cX17_back 76 = .ok (.invokestatic 67, 3) := by decide +kernel
theorem wr_10_189 : (Jvm.Cond.methodLink "SpillForgeModel" (67 : Nat) ({ cls := "SpillForgeModel", name := "set", desc := "([JI)V" } : Jvm.MethodName)) ∈ gw := gw_10 189 rfl rfl
theorem wr_10_191 : (Jvm.Cond.code ({ cls := "SpillForgeModel", name := "set", desc := "([JI)V" } : Jvm.MethodName) prog_14_method_3_code (2 : Nat) (Option.none : Option Jvm.ClassFile.FieldType)) ∈ gw := gw_10 191 rfl rfl
theorem wr_10_190 : (Jvm.Cond.static ({ cls := "SpillForgeModel", name := "set", desc := "([JI)V" } : Jvm.MethodName)) ∈ gw := gw_10 190 rfl rfl
theorem dr_cX17_back_50 : decode cX17_back 50 = .ok (.aload_n 0, 1) := by decide +kernel
theorem dr_cX17_back_51 : decode cX17_back 51 = .ok (.getfield 59, 3) := by decide +kernel
theorem dr_cX17_back_54 : decode cX17_back 54 = .ok (.aload_n 1, 1) := by decide +kernel
theorem dr_cX17_back_55 : decode cX17_back 55 = .ok (.getfield 73, 3) := by decide +kernel
theorem wr_9_186 : (Jvm.Cond.fieldLink "SpillForgeModel" (73 : Nat) "SpillForgeModel$Row" "a" "I") ∈ gw := gw_9 186 rfl rfl
theorem dr_cX17_back_58 : decode cX17_back 58 = .ok (.invokestatic 67, 3) := by decide +kernel
theorem dr_cX17_back_22 : decode cX17_back 22 = .ok (.aload_n 1, 1) := by decide +kernel
theorem dr_cX17_back_23 : decode cX17_back 23 = .ok (.getfield 39, 3) := by decide +kernel
theorem dr_cX17_back_26 : decode cX17_back 26 = .ok (.bipush 21, 2) := by decide +kernel
theorem dr_cX17_back_28 : decode cX17_back 28 = .ok (.if_icmp .ne 14, 3) := by decide +kernel
theorem dr_cX17_back_42 : decode cX17_back 42 = .ok (.return_, 1) := by decide +kernel
theorem dr_cX17_back_31 : decode cX17_back 31 = .ok (.aload_n 0, 1) := by decide +kernel
theorem dr_cX17_back_32 : decode cX17_back 32 = .ok (.getfield 59, 3) := by decide +kernel
theorem dr_cX17_back_35 : decode cX17_back 35 = .ok (.aload_n 1, 1) := by decide +kernel
theorem dr_cX17_back_36 : decode cX17_back 36 = .ok (.getfield 45, 3) := by decide +kernel
theorem dr_cX17_back_39 : decode cX17_back 39 = .ok (.invokestatic 67, 3) := by decide +kernel
theorem dr_cX17_back_10 : decode cX17_back 10 = .ok (.aload_n 0, 1) := by decide +kernel
theorem dr_cX17_back_11 : decode cX17_back 11 = .ok (.getfield 59, 3) := by decide +kernel
theorem dr_cX17_back_14 : decode cX17_back 14 = .ok (.iload_n 3, 1) := by decide +kernel
theorem dr_cX17_back_15 : decode cX17_back 15 = .ok (.invokestatic 63, 3) := by decide +kernel
theorem wr_10_185 : (Jvm.Cond.methodLink "SpillForgeModel" (63 : Nat) ({ cls := "SpillForgeModel", name := "clear", desc := "([JI)V" } : Jvm.MethodName)) ∈ gw := gw_10 185 rfl rfl
theorem wr_10_187 : (Jvm.Cond.code ({ cls := "SpillForgeModel", name := "clear", desc := "([JI)V" } : Jvm.MethodName) prog_14_method_4_code (2 : Nat) (Option.none : Option Jvm.ClassFile.FieldType)) ∈ gw := gw_10 187 rfl rfl
theorem wr_10_186 : (Jvm.Cond.static ({ cls := "SpillForgeModel", name := "clear", desc := "([JI)V" } : Jvm.MethodName)) ∈ gw := gw_10 186 rfl rfl
theorem dr_cX17_stand_0 : decode cX17_stand 0 = .ok (.aload_n 1, 1) := by decide +kernel
theorem dr_cX17_stand_1 : decode cX17_stand 1 = .ok (.iload_n 2, 1) := by decide +kernel
theorem dr_cX17_stand_2 : decode cX17_stand 2 = .ok (.invokestatic 55, 3) := by decide +kernel
theorem dr_cX17_stand_5 : decode cX17_stand 5 = .ok (.istore_n 3, 1) := by decide +kernel
theorem dr_cX17_stand_6 : decode cX17_stand 6 = .ok (.iload_n 3, 1) := by decide +kernel
theorem dr_cX17_stand_7 : decode cX17_stand 7 = .ok (.ifCond .lt 10, 3) := by decide +kernel
theorem dr_cX17_stand_17 : decode cX17_stand 17 = .ok (.iload_n 2, 1) := by decide +kernel
theorem dr_cX17_stand_18 : decode cX17_stand 18 = .ok (.ifCond .eq 23, 3) := by decide +kernel
theorem dr_cX17_stand_41 : decode cX17_stand 41 = .ok (.aload_n 1, 1) := by decide +kernel
theorem dr_cX17_stand_42 : decode cX17_stand 42 = .ok (.invokevirtual 70, 3) := by decide +kernel
theorem dr_cX17_stand_45 : decode cX17_stand 45 = .ok (.ifCond .eq 13, 3) := by decide +kernel
theorem dr_cX17_stand_58 : decode cX17_stand 58 = .ok (.aload_n 1, 1) := by decide +kernel
theorem dr_cX17_stand_59 : decode cX17_stand 59 = .ok (.invokevirtual 76, 3) := by decide +kernel
theorem dr_cX17_stand_62 : decode cX17_stand 62 = .ok (.ifCond .eq 13, 3) := by decide +kernel
theorem dr_cX17_stand_75 : decode cX17_stand 75 = .ok (.return_, 1) := by decide +kernel
theorem dr_cX17_stand_65 : decode cX17_stand 65 = .ok (.aload_n 0, 1) := by decide +kernel
theorem dr_cX17_stand_66 : decode cX17_stand 66 = .ok (.getfield 131, 3) := by decide +kernel
theorem wr_7_77 : (Jvm.Cond.fieldLink "SpillForgeModel" (131 : Nat) "SpillForgeModel" "stands" "[Z") ∈ gw := gw_7 77 rfl rfl
theorem dr_cX17_stand_69 : decode cX17_stand 69 = .ok (.aload_n 1, 1) := by decide +kernel
theorem dr_cX17_stand_70 : decode cX17_stand 70 = .ok (.getfield 79, 3) := by decide +kernel
theorem dr_cX17_stand_73 : decode cX17_stand 73 = .ok (.iconst 1, 1) := by decide +kernel
theorem dr_cX17_stand_74 : decode cX17_stand 74 = .ok (.bastore, 1) := by decide +kernel
theorem dr_cX17_stand_48 : decode cX17_stand 48 = .ok (.aload_n 0, 1) := by decide +kernel
theorem dr_cX17_stand_49 : decode cX17_stand 49 = .ok (.getfield 131, 3) := by decide +kernel
theorem dr_cX17_stand_52 : decode cX17_stand 52 = .ok (.aload_n 1, 1) := by decide +kernel
theorem dr_cX17_stand_53 : decode cX17_stand 53 = .ok (.getfield 73, 3) := by decide +kernel
theorem dr_cX17_stand_56 : decode cX17_stand 56 = .ok (.iconst 1, 1) := by decide +kernel
theorem dr_cX17_stand_57 : decode cX17_stand 57 = .ok (.bastore, 1) := by decide +kernel
theorem dr_cX17_stand_21 : decode cX17_stand 21 = .ok (.aload_n 1, 1) := by decide +kernel
theorem dr_cX17_stand_22 : decode cX17_stand 22 = .ok (.getfield 39, 3) := by decide +kernel
theorem dr_cX17_stand_25 : decode cX17_stand 25 = .ok (.bipush 21, 2) := by decide +kernel
theorem dr_cX17_stand_27 : decode cX17_stand 27 = .ok (.if_icmp .ne 13, 3) := by decide +kernel
theorem dr_cX17_stand_40 : decode cX17_stand 40 = .ok (.return_, 1) := by decide +kernel
theorem dr_cX17_stand_30 : decode cX17_stand 30 = .ok (.aload_n 0, 1) := by decide +kernel
theorem dr_cX17_stand_31 : decode cX17_stand 31 = .ok (.getfield 131, 3) := by decide +kernel
theorem dr_cX17_stand_34 : decode cX17_stand 34 = .ok (.aload_n 1, 1) := by decide +kernel
theorem dr_cX17_stand_35 : decode cX17_stand 35 = .ok (.getfield 45, 3) := by decide +kernel
theorem dr_cX17_stand_38 : decode cX17_stand 38 = .ok (.iconst 1, 1) := by decide +kernel
theorem dr_cX17_stand_39 : decode cX17_stand 39 = .ok (.bastore, 1) := by decide +kernel
theorem dr_cX17_stand_10 : decode cX17_stand 10 = .ok (.aload_n 0, 1) := by decide +kernel
theorem dr_cX17_stand_11 : decode cX17_stand 11 = .ok (.getfield 131, 3) := by decide +kernel
theorem dr_cX17_stand_14 : decode cX17_stand 14 = .ok (.iload_n 3, 1) := by decide +kernel
theorem dr_cX17_stand_15 : decode cX17_stand 15 = .ok (.iconst 1, 1) := by decide +kernel
theorem dr_cX17_stand_16 : decode cX17_stand 16 = .ok (.bastore, 1) := by decide +kernel
abbrev ky_3919_SpillForgeModel_back : gKey := (cX17_back, 4, "SpillForgeModel", none, [], "back", fun _ _ => True)
def pt_3919_SpillForgeModel_back (D : va_G) (I : FieldType → ClassId) (γ el : Nat → Nat → Nat) (P3914 : List Nat) (F3915 : Nat → va_E) (q3916 : Nat) (q3917 : Nat) (p3918 : Int32) : Option Value → va_W → Nat → Nat → Prop := fun r w dc ds => ∃ (F4358 : Nat → va_E), r = none ∧ w = va_pl P3914 F4358 ∧ RS D I P3914 F4358 γ el ∧ rStr γ [] F3915 F4358 ∧ dc ≤ 0 ∧ ds ≤ 0
set_option maxRecDepth 100000 in
set_option maxHeartbeats 4000000 in
theorem ct_3919_SpillForgeModel_back (l : Launch) (hl0 : l.stackTraces = false) (D : va_G) (I : FieldType → ClassId) (γ el : Nat → Nat → Nat) (P3914 : List Nat) (F3915 : Nat → va_E) (q3916 : Nat) (q3917 : Nat) (p3918 : Int32) (hT : RS D I P3914 F3915 γ el) (htq3916 : rKd γ q3916 10) (htq3917 : rKd γ q3917 1) (bp3918 : gB p3918 0 1) : CtA (gV D I) l yX17_back cX17_back 4 none 2 41 0 0 [.ref q3916, .ref q3917, .int p3918] (va_pl P3914 F3915) (pt_3919_SpillForgeModel_back D I γ el P3914 F3915 q3916 q3917 p3918) gNA := by
  refine CtA_of hl0 (by decide) (Nat.le_of_ble_eq_true rfl) ?_
  refine G_aload_n 1 dr_cX17_back_0 rfl ?_
  refine G_iload_n 2 dr_cX17_back_1 rfl ?_
  have hm3920 : q3917 ∈ P3914 := RS_m hT htq3917 (by decide)
  obtain ⟨p3922, p3923, p3924, p3925, p3926, p3927, p3928, he3921, bp3922, bp3923, bp3926, bp3927, bp3928, r3929, r3930, r3931, r3932⟩ := show rk_1 γ q3917 (F3915 q3917) from RS_o hT htq3917
  have bp3924 := gB_any p3924
  have bp3925 := gB_any p3925
  refine Gw_callS (As := [.ref q3917, .int p3918]) (gV_ok D I) (cp_1778_SpillForgeModel_setOf l hl0 D I P3914 F3915 q3917 p3918 p3922 p3923 p3924 p3925 p3926 p3927 p3928 hm3920 he3921 bp3918 bp3922 bp3923 bp3926 bp3927 bp3928) dr_cX17_back_2 ⟨wr_10_178, wr_1_14, wr_10_180, by decide, rfl, (Nat.le_of_ble_eq_true rfl), (Nat.le_of_ble_eq_true rfl)⟩ wr_10_179 (show 0 + 0 ≤ 0 by first | omega | decide) (show 0 + 0 ≤ 0 by first | omega | decide) (Nat.le_of_ble_eq_true rfl) (fun r3936 w3937 dc3933 ds3934 hp3935 => ?_) (fun _ _ _ _ _ z => z.elim)
  obtain ⟨o3938, rfl, rfl, hdc, hds, bo3938⟩ := hp3935
  change G _ _ _ _ _ _ _ (.int o3938 :: _) _ _ _
  refine G_widen (cs' := 0) (sl' := 0) (by omega) (by omega) ?_
  refine G_istore_n (L' := [(3, .int o3938), (0, .ref q3916), (1, .ref q3917), (2, .int p3918)]) dr_cX17_back_5 (Nat.le_of_ble_eq_true rfl) rfl ?_
  refine G_iload_n 0 dr_cX17_back_6 rfl ?_
  refine G_if_lt 18 dr_cX17_back_7 (by decide +kernel) (fun hc3939 => ?_) (fun hc3939 => ?_)
  · have r3940 : o3938.toInt < 0 := gj_lt hc3939 (show Int32.toInt 0 = 0 by decide)
    have bo3938' : gB o3938 (-1) (-1) := ⟨by omega, by omega⟩
    refine G_iload_n 3 dr_cX17_back_18 rfl ?_
    refine G_if_eq 43 dr_cX17_back_19 (by decide +kernel) (fun hc3941 => ?_) (fun hc3941 => ?_)
    · have r3942 : p3918.toInt = 0 := gj_eq hc3941 (show Int32.toInt 0 = 0 by decide)
      have bp3918' : gB p3918 0 0 := ⟨by omega, by omega⟩
      refine G_aload_n 2 dr_cX17_back_43 rfl ?_
      refine Gw_callV (As := []) (gV_ok D I) (cp_1669_Row_usesA l hl0 D I P3914 F3915 q3917 p3922 p3923 p3924 p3925 p3926 p3927 p3928 hm3920 he3921 bp3922 bp3923 bp3926 bp3927 bp3928) dr_cX17_back_44 ⟨wr_10_192, wr_1_39, wr_10_195, by decide, rfl, (Nat.le_of_ble_eq_true rfl), (Nat.le_of_ble_eq_true rfl)⟩ wr_10_193 wr_10_194 hm3920 he3921 rfl (show 0 + 0 ≤ 0 by first | omega | decide) (show 0 + 0 ≤ 0 by first | omega | decide) (Nat.le_of_ble_eq_true rfl) (fun r3946 w3947 dc3943 ds3944 hp3945 => ?_) (fun _ _ _ _ _ z => z.elim)
      obtain ⟨o3948, rfl, rfl, hdc, hds, bo3948, x3949⟩ := hp3945
      change G _ _ _ _ _ _ _ (.int o3948 :: _) _ _ _
      refine G_widen (cs' := 0) (sl' := 0) (by omega) (by omega) ?_
      refine G_if_eq 61 dr_cX17_back_47 (by decide +kernel) (fun hc3950 => ?_) (fun hc3950 => ?_)
      · have r3951 : o3948.toInt = 0 := gj_eq hc3950 (show Int32.toInt 0 = 0 by decide)
        have bo3948' : gB o3948 0 0 := ⟨by omega, by omega⟩
        refine G_aload_n 2 dr_cX17_back_61 rfl ?_
        refine Gw_callV (As := []) (gV_ok D I) (cp_1693_Row_usesB l hl0 D I P3914 F3915 q3917 p3922 p3923 p3924 p3925 p3926 p3927 p3928 hm3920 he3921 bp3922 bp3923 bp3926 bp3927 bp3928) dr_cX17_back_62 ⟨wr_10_196, wr_1_39, wr_10_199, by decide, rfl, (Nat.le_of_ble_eq_true rfl), (Nat.le_of_ble_eq_true rfl)⟩ wr_10_197 wr_10_198 hm3920 he3921 rfl (show 0 + 0 ≤ 0 by first | omega | decide) (show 0 + 0 ≤ 0 by first | omega | decide) (Nat.le_of_ble_eq_true rfl) (fun r3955 w3956 dc3952 ds3953 hp3954 => ?_) (fun _ _ _ _ _ z => z.elim)
        obtain ⟨o3957, rfl, rfl, hdc, hds, bo3957, x3958⟩ := hp3954
        change G _ _ _ _ _ _ _ (.int o3957 :: _) _ _ _
        refine G_widen (cs' := 0) (sl' := 0) (by omega) (by omega) ?_
        refine G_if_eq 79 dr_cX17_back_65 (by decide +kernel) (fun hc3959 => ?_) (fun hc3959 => ?_)
        · have r3960 : o3957.toInt = 0 := gj_eq hc3959 (show Int32.toInt 0 = 0 by decide)
          have bo3957' : gB o3957 0 0 := ⟨by omega, by omega⟩
          exact G_vretA dr_cX17_back_79 rfl (Nat.le_of_ble_eq_true rfl) (Nat.le_of_ble_eq_true rfl) ⟨F3915, rfl, rfl, hT, (rStr_rf (γ := γ) (W := []) (F := F3915)), (Nat.le_of_ble_eq_true rfl), (Nat.le_of_ble_eq_true rfl)⟩
        · have r3961 : o3957.toInt ≠ 0 := gj_neq hc3959 (show Int32.toInt 0 = 0 by decide)
          have bo3957' : gB o3957 1 1 := ⟨by omega, by omega⟩
          refine G_aload_n 1 dr_cX17_back_68 rfl ?_
          have hm3962 : q3916 ∈ P3914 := RS_m hT htq3916 (by decide)
          obtain ⟨q3964, q3965, p3966, p3967, p3968, p3969, p3970, p3971, p3972, p3973, p3974, p3975, p3976, p3977, p3978, p3979, p3980, he3963, hB4007, ht3981, ht3982, ht3983, ht3984, ht3985, ht3986, ht3987, ht3988, ht3989, ht3990, ht3991, ht3992, ht3993, ht3994, ht3995, ht3996, ht3997, ht3998, ht3999, ht4000, ht4001, ht4002, ht4003, ht4004, hB4008⟩ := show rk_10 γ (F3915 q3916) from RS_o hT htq3916
          refine Gp_get 2 hm3962 he3963 dr_cX17_back_69 (gk_X17 D I) (Nat.le_of_ble_eq_true rfl) wr_7_76 rfl ?_
          refine G_aload_n 2 dr_cX17_back_72 rfl ?_
          refine Gp_get 3 hm3920 he3921 dr_cX17_back_73 (gk_X15 D I) (Nat.le_of_ble_eq_true rfl) wr_9_190 rfl ?_
          have hm4009 : (γ 9 2) ∈ P3914 := RS_m hT ht3985 (by decide)
          obtain ⟨f4011, he4010, wf4011⟩ := show rk_35 I (F3915 (γ 9 2)) from RS_o hT ht3985
          refine Gw_callS (As := [.ref (γ 9 2), .int p3925]) (gV_ok D I) (cp_1853_SpillForgeModel_set l hl0 D I P3914 F3915 (γ 9 2) p3925 f4011 hm4009 he4010 ⟨by omega, by omega⟩ wf4011) dr_cX17_back_76 ⟨wr_10_189, wr_1_14, wr_10_191, by decide, rfl, (Nat.le_of_ble_eq_true rfl), (Nat.le_of_ble_eq_true rfl)⟩ wr_10_190 (show 0 + 0 ≤ 0 by first | omega | decide) (show 0 + 0 ≤ 0 by first | omega | decide) (Nat.le_of_ble_eq_true rfl) (fun r4015 w4016 dc4012 ds4013 hp4014 => ?_) (fun _ _ _ _ _ z => z.elim)
          obtain ⟨F4019, f4017, rfl, rfl, hfr4021, he4022, hdc, hds, x4018⟩ := hp4014
          have he4023 : F4019 q3917 = .inr (20, [.int p3922, .int p3923, .int p3924, .int p3925, .int p3926, .int p3927, .int p3928]) := (hfr4021 q3917 hm3920 (nm_c (rn_oa he3921 he4010) nm_n)).trans he3921
          have he4024 : F4019 q3916 = .inr (22, [.ref (γ 9 0), .ref (γ 9 1), .ref (γ 9 2), .ref (γ 9 3), .ref (γ 9 4), .ref (γ 9 5), .ref (γ 9 6), .ref (γ 9 7), .ref (γ 9 8), .int p3966, .int p3967, .int p3968, .int p3969, .int p3970, .int p3971, .ref (γ 9 15), .ref (γ 9 16), .ref (γ 9 17), .ref (γ 9 18), .ref (γ 9 19), .ref (γ 9 20), .ref (γ 9 21), .ref (γ 9 22), .int p3972, .int p3973, .int p3974, .int p3975, .int p3976, .ref q3964, .ref (γ 9 29), .int p3977, .ref (γ 9 31), .int p3978, .int p3979, .int p3980, .ref q3965]) := (hfr4021 q3916 hm3962 (nm_c (rn_oa he3963 he4010) nm_n)).trans he3963
          have hfr4025 : rFr [(γ 9 2)] P3914 F3915 F4019 := rFr_call (rSub_rf (P := P3914)) (rFr_rf (W := []) (P := P3914) (F := F3915)) hfr4021 (fun b hb hn => ⟨nm_n, (nm_c (fun e => hn (e ▸ List.mem_cons_self)) nm_n)⟩)
          change G _ _ _ _ _ _ _ _ _ _ _
          refine G_widen (cs' := 0) (sl' := 0) (by omega) (by omega) ?_
          have hT4026 : RS D I P3914 F4019 γ el := RS_fr hT hfr4025 ht3985 (by decide) ⟨f4017, he4022, x4018⟩
          have hs4027 : rStr γ [] F3915 F4019 := rStr_fr hT (rStr_rf (γ := γ) (W := []) (F := F3915)) hfr4025 ht3985 (by decide)
          exact G_vretA dr_cX17_back_79 rfl (Nat.le_of_ble_eq_true rfl) (Nat.le_of_ble_eq_true rfl) ⟨F4019, rfl, rfl, hT4026, hs4027, (Nat.le_of_ble_eq_true rfl), (Nat.le_of_ble_eq_true rfl)⟩
      · have r4028 : o3948.toInt ≠ 0 := gj_neq hc3950 (show Int32.toInt 0 = 0 by decide)
        have bo3948' : gB o3948 1 1 := ⟨by omega, by omega⟩
        refine G_aload_n 1 dr_cX17_back_50 rfl ?_
        have hm4029 : q3916 ∈ P3914 := RS_m hT htq3916 (by decide)
        obtain ⟨q4031, q4032, p4033, p4034, p4035, p4036, p4037, p4038, p4039, p4040, p4041, p4042, p4043, p4044, p4045, p4046, p4047, he4030, hB4074, ht4048, ht4049, ht4050, ht4051, ht4052, ht4053, ht4054, ht4055, ht4056, ht4057, ht4058, ht4059, ht4060, ht4061, ht4062, ht4063, ht4064, ht4065, ht4066, ht4067, ht4068, ht4069, ht4070, ht4071, hB4075⟩ := show rk_10 γ (F3915 q3916) from RS_o hT htq3916
        refine Gp_get 2 hm4029 he4030 dr_cX17_back_51 (gk_X17 D I) (Nat.le_of_ble_eq_true rfl) wr_7_76 rfl ?_
        refine G_aload_n 2 dr_cX17_back_54 rfl ?_
        refine Gp_get 2 hm3920 he3921 dr_cX17_back_55 (gk_X15 D I) (Nat.le_of_ble_eq_true rfl) wr_9_186 rfl ?_
        have hm4076 : (γ 9 2) ∈ P3914 := RS_m hT ht4052 (by decide)
        obtain ⟨f4078, he4077, wf4078⟩ := show rk_35 I (F3915 (γ 9 2)) from RS_o hT ht4052
        refine Gw_callS (As := [.ref (γ 9 2), .int p3924]) (gV_ok D I) (cp_1853_SpillForgeModel_set l hl0 D I P3914 F3915 (γ 9 2) p3924 f4078 hm4076 he4077 ⟨by omega, by omega⟩ wf4078) dr_cX17_back_58 ⟨wr_10_189, wr_1_14, wr_10_191, by decide, rfl, (Nat.le_of_ble_eq_true rfl), (Nat.le_of_ble_eq_true rfl)⟩ wr_10_190 (show 0 + 0 ≤ 0 by first | omega | decide) (show 0 + 0 ≤ 0 by first | omega | decide) (Nat.le_of_ble_eq_true rfl) (fun r4082 w4083 dc4079 ds4080 hp4081 => ?_) (fun _ _ _ _ _ z => z.elim)
        obtain ⟨F4086, f4084, rfl, rfl, hfr4088, he4089, hdc, hds, x4085⟩ := hp4081
        have he4090 : F4086 q3917 = .inr (20, [.int p3922, .int p3923, .int p3924, .int p3925, .int p3926, .int p3927, .int p3928]) := (hfr4088 q3917 hm3920 (nm_c (rn_oa he3921 he4077) nm_n)).trans he3921
        have he4091 : F4086 q3916 = .inr (22, [.ref (γ 9 0), .ref (γ 9 1), .ref (γ 9 2), .ref (γ 9 3), .ref (γ 9 4), .ref (γ 9 5), .ref (γ 9 6), .ref (γ 9 7), .ref (γ 9 8), .int p4033, .int p4034, .int p4035, .int p4036, .int p4037, .int p4038, .ref (γ 9 15), .ref (γ 9 16), .ref (γ 9 17), .ref (γ 9 18), .ref (γ 9 19), .ref (γ 9 20), .ref (γ 9 21), .ref (γ 9 22), .int p4039, .int p4040, .int p4041, .int p4042, .int p4043, .ref q4031, .ref (γ 9 29), .int p4044, .ref (γ 9 31), .int p4045, .int p4046, .int p4047, .ref q4032]) := (hfr4088 q3916 hm4029 (nm_c (rn_oa he4030 he4077) nm_n)).trans he4030
        have hfr4092 : rFr [(γ 9 2)] P3914 F3915 F4086 := rFr_call (rSub_rf (P := P3914)) (rFr_rf (W := []) (P := P3914) (F := F3915)) hfr4088 (fun b hb hn => ⟨nm_n, (nm_c (fun e => hn (e ▸ List.mem_cons_self)) nm_n)⟩)
        change G _ _ _ _ _ _ _ _ _ _ _
        refine G_widen (cs' := 0) (sl' := 0) (by omega) (by omega) ?_
        have hT4093 : RS D I P3914 F4086 γ el := RS_fr hT hfr4092 ht4052 (by decide) ⟨f4084, he4089, x4085⟩
        have hs4094 : rStr γ [] F3915 F4086 := rStr_fr hT (rStr_rf (γ := γ) (W := []) (F := F3915)) hfr4092 ht4052 (by decide)
        refine G_aload_n 2 dr_cX17_back_61 rfl ?_
        refine Gw_callV (As := []) (gV_ok D I) (cp_1693_Row_usesB l hl0 D I P3914 F4086 q3917 p3922 p3923 p3924 p3925 p3926 p3927 p3928 hm3920 he4090 bp3922 bp3923 bp3926 bp3927 bp3928) dr_cX17_back_62 ⟨wr_10_196, wr_1_39, wr_10_199, by decide, rfl, (Nat.le_of_ble_eq_true rfl), (Nat.le_of_ble_eq_true rfl)⟩ wr_10_197 wr_10_198 hm3920 he4090 rfl (show 0 + 0 ≤ 0 by first | omega | decide) (show 0 + 0 ≤ 0 by first | omega | decide) (Nat.le_of_ble_eq_true rfl) (fun r4098 w4099 dc4095 ds4096 hp4097 => ?_) (fun _ _ _ _ _ z => z.elim)
        obtain ⟨o4100, rfl, rfl, hdc, hds, bo4100, x4101⟩ := hp4097
        change G _ _ _ _ _ _ _ (.int o4100 :: _) _ _ _
        refine G_widen (cs' := 0) (sl' := 0) (by omega) (by omega) ?_
        refine G_if_eq 79 dr_cX17_back_65 (by decide +kernel) (fun hc4102 => ?_) (fun hc4102 => ?_)
        · have r4103 : o4100.toInt = 0 := gj_eq hc4102 (show Int32.toInt 0 = 0 by decide)
          have bo4100' : gB o4100 0 0 := ⟨by omega, by omega⟩
          exact G_vretA dr_cX17_back_79 rfl (Nat.le_of_ble_eq_true rfl) (Nat.le_of_ble_eq_true rfl) ⟨F4086, rfl, rfl, hT4093, hs4094, (Nat.le_of_ble_eq_true rfl), (Nat.le_of_ble_eq_true rfl)⟩
        · have r4104 : o4100.toInt ≠ 0 := gj_neq hc4102 (show Int32.toInt 0 = 0 by decide)
          have bo4100' : gB o4100 1 1 := ⟨by omega, by omega⟩
          refine G_aload_n 1 dr_cX17_back_68 rfl ?_
          refine Gp_get 2 hm4029 he4091 dr_cX17_back_69 (gk_X17 D I) (Nat.le_of_ble_eq_true rfl) wr_7_76 rfl ?_
          refine G_aload_n 2 dr_cX17_back_72 rfl ?_
          refine Gp_get 3 hm3920 he4090 dr_cX17_back_73 (gk_X15 D I) (Nat.le_of_ble_eq_true rfl) wr_9_190 rfl ?_
          refine Gw_callS (As := [.ref (γ 9 2), .int p3925]) (gV_ok D I) (cp_1853_SpillForgeModel_set l hl0 D I P3914 F4086 (γ 9 2) p3925 f4084 hm4076 he4089 ⟨by omega, by omega⟩ x4085) dr_cX17_back_76 ⟨wr_10_189, wr_1_14, wr_10_191, by decide, rfl, (Nat.le_of_ble_eq_true rfl), (Nat.le_of_ble_eq_true rfl)⟩ wr_10_190 (show 0 + 0 ≤ 0 by first | omega | decide) (show 0 + 0 ≤ 0 by first | omega | decide) (Nat.le_of_ble_eq_true rfl) (fun r4108 w4109 dc4105 ds4106 hp4107 => ?_) (fun _ _ _ _ _ z => z.elim)
          obtain ⟨F4112, f4110, rfl, rfl, hfr4114, he4115, hdc, hds, x4111⟩ := hp4107
          have he4116 : F4112 q3917 = .inr (20, [.int p3922, .int p3923, .int p3924, .int p3925, .int p3926, .int p3927, .int p3928]) := (hfr4114 q3917 hm3920 (nm_c (rn_oa he4090 he4089) nm_n)).trans he4090
          have he4117 : F4112 q3916 = .inr (22, [.ref (γ 9 0), .ref (γ 9 1), .ref (γ 9 2), .ref (γ 9 3), .ref (γ 9 4), .ref (γ 9 5), .ref (γ 9 6), .ref (γ 9 7), .ref (γ 9 8), .int p4033, .int p4034, .int p4035, .int p4036, .int p4037, .int p4038, .ref (γ 9 15), .ref (γ 9 16), .ref (γ 9 17), .ref (γ 9 18), .ref (γ 9 19), .ref (γ 9 20), .ref (γ 9 21), .ref (γ 9 22), .int p4039, .int p4040, .int p4041, .int p4042, .int p4043, .ref q4031, .ref (γ 9 29), .int p4044, .ref (γ 9 31), .int p4045, .int p4046, .int p4047, .ref q4032]) := (hfr4114 q3916 hm4029 (nm_c (rn_oa he4091 he4089) nm_n)).trans he4091
          have hfr4118 : rFr [(γ 9 2)] P3914 F4086 F4112 := rFr_call (rSub_rf (P := P3914)) (rFr_rf (W := []) (P := P3914) (F := F4086)) hfr4114 (fun b hb hn => ⟨nm_n, (nm_c (fun e => hn (e ▸ List.mem_cons_self)) nm_n)⟩)
          change G _ _ _ _ _ _ _ _ _ _ _
          refine G_widen (cs' := 0) (sl' := 0) (by omega) (by omega) ?_
          have hT4119 : RS D I P3914 F4112 γ el := RS_fr hT4093 hfr4118 ht4052 (by decide) ⟨f4110, he4115, x4111⟩
          have hs4120 : rStr γ [] F3915 F4112 := rStr_fr hT4093 hs4094 hfr4118 ht4052 (by decide)
          exact G_vretA dr_cX17_back_79 rfl (Nat.le_of_ble_eq_true rfl) (Nat.le_of_ble_eq_true rfl) ⟨F4112, rfl, rfl, hT4119, hs4120, (Nat.le_of_ble_eq_true rfl), (Nat.le_of_ble_eq_true rfl)⟩
    · have r4121 : p3918.toInt ≠ 0 := gj_neq hc3941 (show Int32.toInt 0 = 0 by decide)
      have bp3918' : gB p3918 1 1 := ⟨by omega, by omega⟩
      refine G_aload_n 2 dr_cX17_back_22 rfl ?_
      refine Gp_get 0 hm3920 he3921 dr_cX17_back_23 (gk_X15 D I) (Nat.le_of_ble_eq_true rfl) wr_9_177 rfl ?_
      refine G_bipush 21 dr_cX17_back_26 (by decide +kernel) ?_
      refine G_icmp_ne 42 dr_cX17_back_28 (by decide +kernel) (fun hc4122 => ?_) (fun hc4122 => ?_)
      · have r4123 : p3922.toInt ≠ 21 := gj_neq hc4122 (show Int32.toInt 21 = 21 by decide)
        exact G_vretA dr_cX17_back_42 rfl (Nat.le_of_ble_eq_true rfl) (Nat.le_of_ble_eq_true rfl) ⟨F3915, rfl, rfl, hT, (rStr_rf (γ := γ) (W := []) (F := F3915)), (Nat.le_of_ble_eq_true rfl), (Nat.le_of_ble_eq_true rfl)⟩
      · have r4124 : p3922.toInt = 21 := gj_eq hc4122 (show Int32.toInt 21 = 21 by decide)
        have bp3922' : gB p3922 21 21 := ⟨by omega, by omega⟩
        refine G_aload_n 1 dr_cX17_back_31 rfl ?_
        have hm4125 : q3916 ∈ P3914 := RS_m hT htq3916 (by decide)
        obtain ⟨q4127, q4128, p4129, p4130, p4131, p4132, p4133, p4134, p4135, p4136, p4137, p4138, p4139, p4140, p4141, p4142, p4143, he4126, hB4170, ht4144, ht4145, ht4146, ht4147, ht4148, ht4149, ht4150, ht4151, ht4152, ht4153, ht4154, ht4155, ht4156, ht4157, ht4158, ht4159, ht4160, ht4161, ht4162, ht4163, ht4164, ht4165, ht4166, ht4167, hB4171⟩ := show rk_10 γ (F3915 q3916) from RS_o hT htq3916
        refine Gp_get 2 hm4125 he4126 dr_cX17_back_32 (gk_X17 D I) (Nat.le_of_ble_eq_true rfl) wr_7_76 rfl ?_
        refine G_aload_n 2 dr_cX17_back_35 rfl ?_
        refine Gp_get 4 hm3920 he3921 dr_cX17_back_36 (gk_X15 D I) (Nat.le_of_ble_eq_true rfl) wr_9_193 rfl ?_
        have hm4172 : (γ 9 2) ∈ P3914 := RS_m hT ht4148 (by decide)
        obtain ⟨f4174, he4173, wf4174⟩ := show rk_35 I (F3915 (γ 9 2)) from RS_o hT ht4148
        refine Gw_callS (As := [.ref (γ 9 2), .int p3926]) (gV_ok D I) (cp_1853_SpillForgeModel_set l hl0 D I P3914 F3915 (γ 9 2) p3926 f4174 hm4172 he4173 bp3926 wf4174) dr_cX17_back_39 ⟨wr_10_189, wr_1_14, wr_10_191, by decide, rfl, (Nat.le_of_ble_eq_true rfl), (Nat.le_of_ble_eq_true rfl)⟩ wr_10_190 (show 0 + 0 ≤ 0 by first | omega | decide) (show 0 + 0 ≤ 0 by first | omega | decide) (Nat.le_of_ble_eq_true rfl) (fun r4178 w4179 dc4175 ds4176 hp4177 => ?_) (fun _ _ _ _ _ z => z.elim)
        obtain ⟨F4182, f4180, rfl, rfl, hfr4184, he4185, hdc, hds, x4181⟩ := hp4177
        have he4186 : F4182 q3917 = .inr (20, [.int p3922, .int p3923, .int p3924, .int p3925, .int p3926, .int p3927, .int p3928]) := (hfr4184 q3917 hm3920 (nm_c (rn_oa he3921 he4173) nm_n)).trans he3921
        have he4187 : F4182 q3916 = .inr (22, [.ref (γ 9 0), .ref (γ 9 1), .ref (γ 9 2), .ref (γ 9 3), .ref (γ 9 4), .ref (γ 9 5), .ref (γ 9 6), .ref (γ 9 7), .ref (γ 9 8), .int p4129, .int p4130, .int p4131, .int p4132, .int p4133, .int p4134, .ref (γ 9 15), .ref (γ 9 16), .ref (γ 9 17), .ref (γ 9 18), .ref (γ 9 19), .ref (γ 9 20), .ref (γ 9 21), .ref (γ 9 22), .int p4135, .int p4136, .int p4137, .int p4138, .int p4139, .ref q4127, .ref (γ 9 29), .int p4140, .ref (γ 9 31), .int p4141, .int p4142, .int p4143, .ref q4128]) := (hfr4184 q3916 hm4125 (nm_c (rn_oa he4126 he4173) nm_n)).trans he4126
        have hfr4188 : rFr [(γ 9 2)] P3914 F3915 F4182 := rFr_call (rSub_rf (P := P3914)) (rFr_rf (W := []) (P := P3914) (F := F3915)) hfr4184 (fun b hb hn => ⟨nm_n, (nm_c (fun e => hn (e ▸ List.mem_cons_self)) nm_n)⟩)
        change G _ _ _ _ _ _ _ _ _ _ _
        refine G_widen (cs' := 0) (sl' := 0) (by omega) (by omega) ?_
        have hT4189 : RS D I P3914 F4182 γ el := RS_fr hT hfr4188 ht4148 (by decide) ⟨f4180, he4185, x4181⟩
        have hs4190 : rStr γ [] F3915 F4182 := rStr_fr hT (rStr_rf (γ := γ) (W := []) (F := F3915)) hfr4188 ht4148 (by decide)
        exact G_vretA dr_cX17_back_42 rfl (Nat.le_of_ble_eq_true rfl) (Nat.le_of_ble_eq_true rfl) ⟨F4182, rfl, rfl, hT4189, hs4190, (Nat.le_of_ble_eq_true rfl), (Nat.le_of_ble_eq_true rfl)⟩
  · have r4191 : 0 ≤ o3938.toInt := gj_nlt hc3939 (show Int32.toInt 0 = 0 by decide)
    have bo3938' : gB o3938 0 1999 := ⟨by omega, by omega⟩
    refine G_aload_n 1 dr_cX17_back_10 rfl ?_
    have hm4192 : q3916 ∈ P3914 := RS_m hT htq3916 (by decide)
    obtain ⟨q4194, q4195, p4196, p4197, p4198, p4199, p4200, p4201, p4202, p4203, p4204, p4205, p4206, p4207, p4208, p4209, p4210, he4193, hB4237, ht4211, ht4212, ht4213, ht4214, ht4215, ht4216, ht4217, ht4218, ht4219, ht4220, ht4221, ht4222, ht4223, ht4224, ht4225, ht4226, ht4227, ht4228, ht4229, ht4230, ht4231, ht4232, ht4233, ht4234, hB4238⟩ := show rk_10 γ (F3915 q3916) from RS_o hT htq3916
    refine Gp_get 2 hm4192 he4193 dr_cX17_back_11 (gk_X17 D I) (Nat.le_of_ble_eq_true rfl) wr_7_76 rfl ?_
    refine G_iload_n 0 dr_cX17_back_14 rfl ?_
    have hm4239 : (γ 9 2) ∈ P3914 := RS_m hT ht4215 (by decide)
    obtain ⟨f4241, he4240, wf4241⟩ := show rk_35 I (F3915 (γ 9 2)) from RS_o hT ht4215
    refine Gw_callS (As := [.ref (γ 9 2), .int o3938]) (gV_ok D I) (cp_1873_SpillForgeModel_clear l hl0 D I P3914 F3915 (γ 9 2) o3938 f4241 hm4239 he4240 bo3938' wf4241) dr_cX17_back_15 ⟨wr_10_185, wr_1_14, wr_10_187, by decide, rfl, (Nat.le_of_ble_eq_true rfl), (Nat.le_of_ble_eq_true rfl)⟩ wr_10_186 (show 0 + 0 ≤ 0 by first | omega | decide) (show 0 + 0 ≤ 0 by first | omega | decide) (Nat.le_of_ble_eq_true rfl) (fun r4245 w4246 dc4242 ds4243 hp4244 => ?_) (fun _ _ _ _ _ z => z.elim)
    obtain ⟨F4249, f4247, rfl, rfl, hfr4251, he4252, hdc, hds, x4248⟩ := hp4244
    have he4253 : F4249 q3917 = .inr (20, [.int p3922, .int p3923, .int p3924, .int p3925, .int p3926, .int p3927, .int p3928]) := (hfr4251 q3917 hm3920 (nm_c (rn_oa he3921 he4240) nm_n)).trans he3921
    have he4254 : F4249 q3916 = .inr (22, [.ref (γ 9 0), .ref (γ 9 1), .ref (γ 9 2), .ref (γ 9 3), .ref (γ 9 4), .ref (γ 9 5), .ref (γ 9 6), .ref (γ 9 7), .ref (γ 9 8), .int p4196, .int p4197, .int p4198, .int p4199, .int p4200, .int p4201, .ref (γ 9 15), .ref (γ 9 16), .ref (γ 9 17), .ref (γ 9 18), .ref (γ 9 19), .ref (γ 9 20), .ref (γ 9 21), .ref (γ 9 22), .int p4202, .int p4203, .int p4204, .int p4205, .int p4206, .ref q4194, .ref (γ 9 29), .int p4207, .ref (γ 9 31), .int p4208, .int p4209, .int p4210, .ref q4195]) := (hfr4251 q3916 hm4192 (nm_c (rn_oa he4193 he4240) nm_n)).trans he4193
    have hfr4255 : rFr [(γ 9 2)] P3914 F3915 F4249 := rFr_call (rSub_rf (P := P3914)) (rFr_rf (W := []) (P := P3914) (F := F3915)) hfr4251 (fun b hb hn => ⟨nm_n, (nm_c (fun e => hn (e ▸ List.mem_cons_self)) nm_n)⟩)
    change G _ _ _ _ _ _ _ _ _ _ _
    refine G_widen (cs' := 0) (sl' := 0) (by omega) (by omega) ?_
    have hT4256 : RS D I P3914 F4249 γ el := RS_fr hT hfr4255 ht4215 (by decide) ⟨f4247, he4252, x4248⟩
    have hs4257 : rStr γ [] F3915 F4249 := rStr_fr hT (rStr_rf (γ := γ) (W := []) (F := F3915)) hfr4255 ht4215 (by decide)
    refine G_iload_n 3 dr_cX17_back_18 rfl ?_
    refine G_if_eq 43 dr_cX17_back_19 (by decide +kernel) (fun hc4258 => ?_) (fun hc4258 => ?_)
    · have r4259 : p3918.toInt = 0 := gj_eq hc4258 (show Int32.toInt 0 = 0 by decide)
      have bp3918' : gB p3918 0 0 := ⟨by omega, by omega⟩
      refine G_aload_n 2 dr_cX17_back_43 rfl ?_
      refine Gw_callV (As := []) (gV_ok D I) (cp_1669_Row_usesA l hl0 D I P3914 F4249 q3917 p3922 p3923 p3924 p3925 p3926 p3927 p3928 hm3920 he4253 bp3922 bp3923 bp3926 bp3927 bp3928) dr_cX17_back_44 ⟨wr_10_192, wr_1_39, wr_10_195, by decide, rfl, (Nat.le_of_ble_eq_true rfl), (Nat.le_of_ble_eq_true rfl)⟩ wr_10_193 wr_10_194 hm3920 he4253 rfl (show 0 + 0 ≤ 0 by first | omega | decide) (show 0 + 0 ≤ 0 by first | omega | decide) (Nat.le_of_ble_eq_true rfl) (fun r4263 w4264 dc4260 ds4261 hp4262 => ?_) (fun _ _ _ _ _ z => z.elim)
      obtain ⟨o4265, rfl, rfl, hdc, hds, bo4265, x4266⟩ := hp4262
      change G _ _ _ _ _ _ _ (.int o4265 :: _) _ _ _
      refine G_widen (cs' := 0) (sl' := 0) (by omega) (by omega) ?_
      refine G_if_eq 61 dr_cX17_back_47 (by decide +kernel) (fun hc4267 => ?_) (fun hc4267 => ?_)
      · have r4268 : o4265.toInt = 0 := gj_eq hc4267 (show Int32.toInt 0 = 0 by decide)
        have bo4265' : gB o4265 0 0 := ⟨by omega, by omega⟩
        refine G_aload_n 2 dr_cX17_back_61 rfl ?_
        refine Gw_callV (As := []) (gV_ok D I) (cp_1693_Row_usesB l hl0 D I P3914 F4249 q3917 p3922 p3923 p3924 p3925 p3926 p3927 p3928 hm3920 he4253 bp3922 bp3923 bp3926 bp3927 bp3928) dr_cX17_back_62 ⟨wr_10_196, wr_1_39, wr_10_199, by decide, rfl, (Nat.le_of_ble_eq_true rfl), (Nat.le_of_ble_eq_true rfl)⟩ wr_10_197 wr_10_198 hm3920 he4253 rfl (show 0 + 0 ≤ 0 by first | omega | decide) (show 0 + 0 ≤ 0 by first | omega | decide) (Nat.le_of_ble_eq_true rfl) (fun r4272 w4273 dc4269 ds4270 hp4271 => ?_) (fun _ _ _ _ _ z => z.elim)
        obtain ⟨o4274, rfl, rfl, hdc, hds, bo4274, x4275⟩ := hp4271
        change G _ _ _ _ _ _ _ (.int o4274 :: _) _ _ _
        refine G_widen (cs' := 0) (sl' := 0) (by omega) (by omega) ?_
        refine G_if_eq 79 dr_cX17_back_65 (by decide +kernel) (fun hc4276 => ?_) (fun hc4276 => ?_)
        · have r4277 : o4274.toInt = 0 := gj_eq hc4276 (show Int32.toInt 0 = 0 by decide)
          have bo4274' : gB o4274 0 0 := ⟨by omega, by omega⟩
          exact G_vretA dr_cX17_back_79 rfl (Nat.le_of_ble_eq_true rfl) (Nat.le_of_ble_eq_true rfl) ⟨F4249, rfl, rfl, hT4256, hs4257, (Nat.le_of_ble_eq_true rfl), (Nat.le_of_ble_eq_true rfl)⟩
        · have r4278 : o4274.toInt ≠ 0 := gj_neq hc4276 (show Int32.toInt 0 = 0 by decide)
          have bo4274' : gB o4274 1 1 := ⟨by omega, by omega⟩
          refine G_aload_n 1 dr_cX17_back_68 rfl ?_
          refine Gp_get 2 hm4192 he4254 dr_cX17_back_69 (gk_X17 D I) (Nat.le_of_ble_eq_true rfl) wr_7_76 rfl ?_
          refine G_aload_n 2 dr_cX17_back_72 rfl ?_
          refine Gp_get 3 hm3920 he4253 dr_cX17_back_73 (gk_X15 D I) (Nat.le_of_ble_eq_true rfl) wr_9_190 rfl ?_
          refine Gw_callS (As := [.ref (γ 9 2), .int p3925]) (gV_ok D I) (cp_1853_SpillForgeModel_set l hl0 D I P3914 F4249 (γ 9 2) p3925 f4247 hm4239 he4252 ⟨by omega, by omega⟩ x4248) dr_cX17_back_76 ⟨wr_10_189, wr_1_14, wr_10_191, by decide, rfl, (Nat.le_of_ble_eq_true rfl), (Nat.le_of_ble_eq_true rfl)⟩ wr_10_190 (show 0 + 0 ≤ 0 by first | omega | decide) (show 0 + 0 ≤ 0 by first | omega | decide) (Nat.le_of_ble_eq_true rfl) (fun r4282 w4283 dc4279 ds4280 hp4281 => ?_) (fun _ _ _ _ _ z => z.elim)
          obtain ⟨F4286, f4284, rfl, rfl, hfr4288, he4289, hdc, hds, x4285⟩ := hp4281
          have he4290 : F4286 q3917 = .inr (20, [.int p3922, .int p3923, .int p3924, .int p3925, .int p3926, .int p3927, .int p3928]) := (hfr4288 q3917 hm3920 (nm_c (rn_oa he4253 he4252) nm_n)).trans he4253
          have he4291 : F4286 q3916 = .inr (22, [.ref (γ 9 0), .ref (γ 9 1), .ref (γ 9 2), .ref (γ 9 3), .ref (γ 9 4), .ref (γ 9 5), .ref (γ 9 6), .ref (γ 9 7), .ref (γ 9 8), .int p4196, .int p4197, .int p4198, .int p4199, .int p4200, .int p4201, .ref (γ 9 15), .ref (γ 9 16), .ref (γ 9 17), .ref (γ 9 18), .ref (γ 9 19), .ref (γ 9 20), .ref (γ 9 21), .ref (γ 9 22), .int p4202, .int p4203, .int p4204, .int p4205, .int p4206, .ref q4194, .ref (γ 9 29), .int p4207, .ref (γ 9 31), .int p4208, .int p4209, .int p4210, .ref q4195]) := (hfr4288 q3916 hm4192 (nm_c (rn_oa he4254 he4252) nm_n)).trans he4254
          have hfr4292 : rFr [(γ 9 2)] P3914 F4249 F4286 := rFr_call (rSub_rf (P := P3914)) (rFr_rf (W := []) (P := P3914) (F := F4249)) hfr4288 (fun b hb hn => ⟨nm_n, (nm_c (fun e => hn (e ▸ List.mem_cons_self)) nm_n)⟩)
          change G _ _ _ _ _ _ _ _ _ _ _
          refine G_widen (cs' := 0) (sl' := 0) (by omega) (by omega) ?_
          have hT4293 : RS D I P3914 F4286 γ el := RS_fr hT4256 hfr4292 ht4215 (by decide) ⟨f4284, he4289, x4285⟩
          have hs4294 : rStr γ [] F3915 F4286 := rStr_fr hT4256 hs4257 hfr4292 ht4215 (by decide)
          exact G_vretA dr_cX17_back_79 rfl (Nat.le_of_ble_eq_true rfl) (Nat.le_of_ble_eq_true rfl) ⟨F4286, rfl, rfl, hT4293, hs4294, (Nat.le_of_ble_eq_true rfl), (Nat.le_of_ble_eq_true rfl)⟩
      · have r4295 : o4265.toInt ≠ 0 := gj_neq hc4267 (show Int32.toInt 0 = 0 by decide)
        have bo4265' : gB o4265 1 1 := ⟨by omega, by omega⟩
        refine G_aload_n 1 dr_cX17_back_50 rfl ?_
        refine Gp_get 2 hm4192 he4254 dr_cX17_back_51 (gk_X17 D I) (Nat.le_of_ble_eq_true rfl) wr_7_76 rfl ?_
        refine G_aload_n 2 dr_cX17_back_54 rfl ?_
        refine Gp_get 2 hm3920 he4253 dr_cX17_back_55 (gk_X15 D I) (Nat.le_of_ble_eq_true rfl) wr_9_186 rfl ?_
        refine Gw_callS (As := [.ref (γ 9 2), .int p3924]) (gV_ok D I) (cp_1853_SpillForgeModel_set l hl0 D I P3914 F4249 (γ 9 2) p3924 f4247 hm4239 he4252 ⟨by omega, by omega⟩ x4248) dr_cX17_back_58 ⟨wr_10_189, wr_1_14, wr_10_191, by decide, rfl, (Nat.le_of_ble_eq_true rfl), (Nat.le_of_ble_eq_true rfl)⟩ wr_10_190 (show 0 + 0 ≤ 0 by first | omega | decide) (show 0 + 0 ≤ 0 by first | omega | decide) (Nat.le_of_ble_eq_true rfl) (fun r4299 w4300 dc4296 ds4297 hp4298 => ?_) (fun _ _ _ _ _ z => z.elim)
        obtain ⟨F4303, f4301, rfl, rfl, hfr4305, he4306, hdc, hds, x4302⟩ := hp4298
        have he4307 : F4303 q3917 = .inr (20, [.int p3922, .int p3923, .int p3924, .int p3925, .int p3926, .int p3927, .int p3928]) := (hfr4305 q3917 hm3920 (nm_c (rn_oa he4253 he4252) nm_n)).trans he4253
        have he4308 : F4303 q3916 = .inr (22, [.ref (γ 9 0), .ref (γ 9 1), .ref (γ 9 2), .ref (γ 9 3), .ref (γ 9 4), .ref (γ 9 5), .ref (γ 9 6), .ref (γ 9 7), .ref (γ 9 8), .int p4196, .int p4197, .int p4198, .int p4199, .int p4200, .int p4201, .ref (γ 9 15), .ref (γ 9 16), .ref (γ 9 17), .ref (γ 9 18), .ref (γ 9 19), .ref (γ 9 20), .ref (γ 9 21), .ref (γ 9 22), .int p4202, .int p4203, .int p4204, .int p4205, .int p4206, .ref q4194, .ref (γ 9 29), .int p4207, .ref (γ 9 31), .int p4208, .int p4209, .int p4210, .ref q4195]) := (hfr4305 q3916 hm4192 (nm_c (rn_oa he4254 he4252) nm_n)).trans he4254
        have hfr4309 : rFr [(γ 9 2)] P3914 F4249 F4303 := rFr_call (rSub_rf (P := P3914)) (rFr_rf (W := []) (P := P3914) (F := F4249)) hfr4305 (fun b hb hn => ⟨nm_n, (nm_c (fun e => hn (e ▸ List.mem_cons_self)) nm_n)⟩)
        change G _ _ _ _ _ _ _ _ _ _ _
        refine G_widen (cs' := 0) (sl' := 0) (by omega) (by omega) ?_
        have hT4310 : RS D I P3914 F4303 γ el := RS_fr hT4256 hfr4309 ht4215 (by decide) ⟨f4301, he4306, x4302⟩
        have hs4311 : rStr γ [] F3915 F4303 := rStr_fr hT4256 hs4257 hfr4309 ht4215 (by decide)
        refine G_aload_n 2 dr_cX17_back_61 rfl ?_
        refine Gw_callV (As := []) (gV_ok D I) (cp_1693_Row_usesB l hl0 D I P3914 F4303 q3917 p3922 p3923 p3924 p3925 p3926 p3927 p3928 hm3920 he4307 bp3922 bp3923 bp3926 bp3927 bp3928) dr_cX17_back_62 ⟨wr_10_196, wr_1_39, wr_10_199, by decide, rfl, (Nat.le_of_ble_eq_true rfl), (Nat.le_of_ble_eq_true rfl)⟩ wr_10_197 wr_10_198 hm3920 he4307 rfl (show 0 + 0 ≤ 0 by first | omega | decide) (show 0 + 0 ≤ 0 by first | omega | decide) (Nat.le_of_ble_eq_true rfl) (fun r4315 w4316 dc4312 ds4313 hp4314 => ?_) (fun _ _ _ _ _ z => z.elim)
        obtain ⟨o4317, rfl, rfl, hdc, hds, bo4317, x4318⟩ := hp4314
        change G _ _ _ _ _ _ _ (.int o4317 :: _) _ _ _
        refine G_widen (cs' := 0) (sl' := 0) (by omega) (by omega) ?_
        refine G_if_eq 79 dr_cX17_back_65 (by decide +kernel) (fun hc4319 => ?_) (fun hc4319 => ?_)
        · have r4320 : o4317.toInt = 0 := gj_eq hc4319 (show Int32.toInt 0 = 0 by decide)
          have bo4317' : gB o4317 0 0 := ⟨by omega, by omega⟩
          exact G_vretA dr_cX17_back_79 rfl (Nat.le_of_ble_eq_true rfl) (Nat.le_of_ble_eq_true rfl) ⟨F4303, rfl, rfl, hT4310, hs4311, (Nat.le_of_ble_eq_true rfl), (Nat.le_of_ble_eq_true rfl)⟩
        · have r4321 : o4317.toInt ≠ 0 := gj_neq hc4319 (show Int32.toInt 0 = 0 by decide)
          have bo4317' : gB o4317 1 1 := ⟨by omega, by omega⟩
          refine G_aload_n 1 dr_cX17_back_68 rfl ?_
          refine Gp_get 2 hm4192 he4308 dr_cX17_back_69 (gk_X17 D I) (Nat.le_of_ble_eq_true rfl) wr_7_76 rfl ?_
          refine G_aload_n 2 dr_cX17_back_72 rfl ?_
          refine Gp_get 3 hm3920 he4307 dr_cX17_back_73 (gk_X15 D I) (Nat.le_of_ble_eq_true rfl) wr_9_190 rfl ?_
          refine Gw_callS (As := [.ref (γ 9 2), .int p3925]) (gV_ok D I) (cp_1853_SpillForgeModel_set l hl0 D I P3914 F4303 (γ 9 2) p3925 f4301 hm4239 he4306 ⟨by omega, by omega⟩ x4302) dr_cX17_back_76 ⟨wr_10_189, wr_1_14, wr_10_191, by decide, rfl, (Nat.le_of_ble_eq_true rfl), (Nat.le_of_ble_eq_true rfl)⟩ wr_10_190 (show 0 + 0 ≤ 0 by first | omega | decide) (show 0 + 0 ≤ 0 by first | omega | decide) (Nat.le_of_ble_eq_true rfl) (fun r4325 w4326 dc4322 ds4323 hp4324 => ?_) (fun _ _ _ _ _ z => z.elim)
          obtain ⟨F4329, f4327, rfl, rfl, hfr4331, he4332, hdc, hds, x4328⟩ := hp4324
          have he4333 : F4329 q3917 = .inr (20, [.int p3922, .int p3923, .int p3924, .int p3925, .int p3926, .int p3927, .int p3928]) := (hfr4331 q3917 hm3920 (nm_c (rn_oa he4307 he4306) nm_n)).trans he4307
          have he4334 : F4329 q3916 = .inr (22, [.ref (γ 9 0), .ref (γ 9 1), .ref (γ 9 2), .ref (γ 9 3), .ref (γ 9 4), .ref (γ 9 5), .ref (γ 9 6), .ref (γ 9 7), .ref (γ 9 8), .int p4196, .int p4197, .int p4198, .int p4199, .int p4200, .int p4201, .ref (γ 9 15), .ref (γ 9 16), .ref (γ 9 17), .ref (γ 9 18), .ref (γ 9 19), .ref (γ 9 20), .ref (γ 9 21), .ref (γ 9 22), .int p4202, .int p4203, .int p4204, .int p4205, .int p4206, .ref q4194, .ref (γ 9 29), .int p4207, .ref (γ 9 31), .int p4208, .int p4209, .int p4210, .ref q4195]) := (hfr4331 q3916 hm4192 (nm_c (rn_oa he4308 he4306) nm_n)).trans he4308
          have hfr4335 : rFr [(γ 9 2)] P3914 F4303 F4329 := rFr_call (rSub_rf (P := P3914)) (rFr_rf (W := []) (P := P3914) (F := F4303)) hfr4331 (fun b hb hn => ⟨nm_n, (nm_c (fun e => hn (e ▸ List.mem_cons_self)) nm_n)⟩)
          change G _ _ _ _ _ _ _ _ _ _ _
          refine G_widen (cs' := 0) (sl' := 0) (by omega) (by omega) ?_
          have hT4336 : RS D I P3914 F4329 γ el := RS_fr hT4310 hfr4335 ht4215 (by decide) ⟨f4327, he4332, x4328⟩
          have hs4337 : rStr γ [] F3915 F4329 := rStr_fr hT4310 hs4311 hfr4335 ht4215 (by decide)
          exact G_vretA dr_cX17_back_79 rfl (Nat.le_of_ble_eq_true rfl) (Nat.le_of_ble_eq_true rfl) ⟨F4329, rfl, rfl, hT4336, hs4337, (Nat.le_of_ble_eq_true rfl), (Nat.le_of_ble_eq_true rfl)⟩
    · have r4338 : p3918.toInt ≠ 0 := gj_neq hc4258 (show Int32.toInt 0 = 0 by decide)
      have bp3918' : gB p3918 1 1 := ⟨by omega, by omega⟩
      refine G_aload_n 2 dr_cX17_back_22 rfl ?_
      refine Gp_get 0 hm3920 he4253 dr_cX17_back_23 (gk_X15 D I) (Nat.le_of_ble_eq_true rfl) wr_9_177 rfl ?_
      refine G_bipush 21 dr_cX17_back_26 (by decide +kernel) ?_
      refine G_icmp_ne 42 dr_cX17_back_28 (by decide +kernel) (fun hc4339 => ?_) (fun hc4339 => ?_)
      · have r4340 : p3922.toInt ≠ 21 := gj_neq hc4339 (show Int32.toInt 21 = 21 by decide)
        exact G_vretA dr_cX17_back_42 rfl (Nat.le_of_ble_eq_true rfl) (Nat.le_of_ble_eq_true rfl) ⟨F4249, rfl, rfl, hT4256, hs4257, (Nat.le_of_ble_eq_true rfl), (Nat.le_of_ble_eq_true rfl)⟩
      · have r4341 : p3922.toInt = 21 := gj_eq hc4339 (show Int32.toInt 21 = 21 by decide)
        have bp3922' : gB p3922 21 21 := ⟨by omega, by omega⟩
        refine G_aload_n 1 dr_cX17_back_31 rfl ?_
        refine Gp_get 2 hm4192 he4254 dr_cX17_back_32 (gk_X17 D I) (Nat.le_of_ble_eq_true rfl) wr_7_76 rfl ?_
        refine G_aload_n 2 dr_cX17_back_35 rfl ?_
        refine Gp_get 4 hm3920 he4253 dr_cX17_back_36 (gk_X15 D I) (Nat.le_of_ble_eq_true rfl) wr_9_193 rfl ?_
        refine Gw_callS (As := [.ref (γ 9 2), .int p3926]) (gV_ok D I) (cp_1853_SpillForgeModel_set l hl0 D I P3914 F4249 (γ 9 2) p3926 f4247 hm4239 he4252 bp3926 x4248) dr_cX17_back_39 ⟨wr_10_189, wr_1_14, wr_10_191, by decide, rfl, (Nat.le_of_ble_eq_true rfl), (Nat.le_of_ble_eq_true rfl)⟩ wr_10_190 (show 0 + 0 ≤ 0 by first | omega | decide) (show 0 + 0 ≤ 0 by first | omega | decide) (Nat.le_of_ble_eq_true rfl) (fun r4345 w4346 dc4342 ds4343 hp4344 => ?_) (fun _ _ _ _ _ z => z.elim)
        obtain ⟨F4349, f4347, rfl, rfl, hfr4351, he4352, hdc, hds, x4348⟩ := hp4344
        have he4353 : F4349 q3917 = .inr (20, [.int p3922, .int p3923, .int p3924, .int p3925, .int p3926, .int p3927, .int p3928]) := (hfr4351 q3917 hm3920 (nm_c (rn_oa he4253 he4252) nm_n)).trans he4253
        have he4354 : F4349 q3916 = .inr (22, [.ref (γ 9 0), .ref (γ 9 1), .ref (γ 9 2), .ref (γ 9 3), .ref (γ 9 4), .ref (γ 9 5), .ref (γ 9 6), .ref (γ 9 7), .ref (γ 9 8), .int p4196, .int p4197, .int p4198, .int p4199, .int p4200, .int p4201, .ref (γ 9 15), .ref (γ 9 16), .ref (γ 9 17), .ref (γ 9 18), .ref (γ 9 19), .ref (γ 9 20), .ref (γ 9 21), .ref (γ 9 22), .int p4202, .int p4203, .int p4204, .int p4205, .int p4206, .ref q4194, .ref (γ 9 29), .int p4207, .ref (γ 9 31), .int p4208, .int p4209, .int p4210, .ref q4195]) := (hfr4351 q3916 hm4192 (nm_c (rn_oa he4254 he4252) nm_n)).trans he4254
        have hfr4355 : rFr [(γ 9 2)] P3914 F4249 F4349 := rFr_call (rSub_rf (P := P3914)) (rFr_rf (W := []) (P := P3914) (F := F4249)) hfr4351 (fun b hb hn => ⟨nm_n, (nm_c (fun e => hn (e ▸ List.mem_cons_self)) nm_n)⟩)
        change G _ _ _ _ _ _ _ _ _ _ _
        refine G_widen (cs' := 0) (sl' := 0) (by omega) (by omega) ?_
        have hT4356 : RS D I P3914 F4349 γ el := RS_fr hT4256 hfr4355 ht4215 (by decide) ⟨f4347, he4352, x4348⟩
        have hs4357 : rStr γ [] F3915 F4349 := rStr_fr hT4256 hs4257 hfr4355 ht4215 (by decide)
        exact G_vretA dr_cX17_back_42 rfl (Nat.le_of_ble_eq_true rfl) (Nat.le_of_ble_eq_true rfl) ⟨F4349, rfl, rfl, hT4356, hs4357, (Nat.le_of_ble_eq_true rfl), (Nat.le_of_ble_eq_true rfl)⟩
abbrev ky_4364_SpillForgeModel_stand : gKey := (cX17_stand, 4, "SpillForgeModel", none, [], "stand", fun _ _ => True)
def pt_4364_SpillForgeModel_stand (D : va_G) (I : FieldType → ClassId) (γ el : Nat → Nat → Nat) (P4359 : List Nat) (F4360 : Nat → va_E) (q4361 : Nat) (q4362 : Nat) (p4363 : Int32) : Option Value → va_W → Nat → Nat → Prop := fun r w dc ds => ∃ (F4742 : Nat → va_E), r = none ∧ w = va_pl P4359 F4742 ∧ RS D I P4359 F4742 γ el ∧ rStr γ [] F4360 F4742 ∧ dc ≤ 0 ∧ ds ≤ 0
set_option maxRecDepth 100000 in
set_option maxHeartbeats 4000000 in
theorem ct_4364_SpillForgeModel_stand (l : Launch) (hl0 : l.stackTraces = false) (D : va_G) (I : FieldType → ClassId) (γ el : Nat → Nat → Nat) (P4359 : List Nat) (F4360 : Nat → va_E) (q4361 : Nat) (q4362 : Nat) (p4363 : Int32) (hT : RS D I P4359 F4360 γ el) (htq4361 : rKd γ q4361 10) (htq4362 : rKd γ q4362 1) (bp4363 : gB p4363 0 1) : CtA (gV D I) l yX17_stand cX17_stand 4 none 2 41 0 0 [.ref q4361, .ref q4362, .int p4363] (va_pl P4359 F4360) (pt_4364_SpillForgeModel_stand D I γ el P4359 F4360 q4361 q4362 p4363) gNA := by
  refine CtA_of hl0 (by decide) (Nat.le_of_ble_eq_true rfl) ?_
  refine G_aload_n 1 dr_cX17_stand_0 rfl ?_
  refine G_iload_n 2 dr_cX17_stand_1 rfl ?_
  have hm4365 : q4362 ∈ P4359 := RS_m hT htq4362 (by decide)
  obtain ⟨p4367, p4368, p4369, p4370, p4371, p4372, p4373, he4366, bp4367, bp4368, bp4371, bp4372, bp4373, r4374, r4375, r4376, r4377⟩ := show rk_1 γ q4362 (F4360 q4362) from RS_o hT htq4362
  have bp4369 := gB_any p4369
  have bp4370 := gB_any p4370
  refine Gw_callS (As := [.ref q4362, .int p4363]) (gV_ok D I) (cp_1778_SpillForgeModel_setOf l hl0 D I P4359 F4360 q4362 p4363 p4367 p4368 p4369 p4370 p4371 p4372 p4373 hm4365 he4366 bp4363 bp4367 bp4368 bp4371 bp4372 bp4373) dr_cX17_stand_2 ⟨wr_10_178, wr_1_14, wr_10_180, by decide, rfl, (Nat.le_of_ble_eq_true rfl), (Nat.le_of_ble_eq_true rfl)⟩ wr_10_179 (show 0 + 0 ≤ 0 by first | omega | decide) (show 0 + 0 ≤ 0 by first | omega | decide) (Nat.le_of_ble_eq_true rfl) (fun r4381 w4382 dc4378 ds4379 hp4380 => ?_) (fun _ _ _ _ _ z => z.elim)
  obtain ⟨o4383, rfl, rfl, hdc, hds, bo4383⟩ := hp4380
  change G _ _ _ _ _ _ _ (.int o4383 :: _) _ _ _
  refine G_widen (cs' := 0) (sl' := 0) (by omega) (by omega) ?_
  refine G_istore_n (L' := [(3, .int o4383), (0, .ref q4361), (1, .ref q4362), (2, .int p4363)]) dr_cX17_stand_5 (Nat.le_of_ble_eq_true rfl) rfl ?_
  refine G_iload_n 0 dr_cX17_stand_6 rfl ?_
  refine G_if_lt 17 dr_cX17_stand_7 (by decide +kernel) (fun hc4384 => ?_) (fun hc4384 => ?_)
  · have r4385 : o4383.toInt < 0 := gj_lt hc4384 (show Int32.toInt 0 = 0 by decide)
    have bo4383' : gB o4383 (-1) (-1) := ⟨by omega, by omega⟩
    refine G_iload_n 3 dr_cX17_stand_17 rfl ?_
    refine G_if_eq 41 dr_cX17_stand_18 (by decide +kernel) (fun hc4386 => ?_) (fun hc4386 => ?_)
    · have r4387 : p4363.toInt = 0 := gj_eq hc4386 (show Int32.toInt 0 = 0 by decide)
      have bp4363' : gB p4363 0 0 := ⟨by omega, by omega⟩
      refine G_aload_n 2 dr_cX17_stand_41 rfl ?_
      refine Gw_callV (As := []) (gV_ok D I) (cp_1669_Row_usesA l hl0 D I P4359 F4360 q4362 p4367 p4368 p4369 p4370 p4371 p4372 p4373 hm4365 he4366 bp4367 bp4368 bp4371 bp4372 bp4373) dr_cX17_stand_42 ⟨wr_10_192, wr_1_39, wr_10_195, by decide, rfl, (Nat.le_of_ble_eq_true rfl), (Nat.le_of_ble_eq_true rfl)⟩ wr_10_193 wr_10_194 hm4365 he4366 rfl (show 0 + 0 ≤ 0 by first | omega | decide) (show 0 + 0 ≤ 0 by first | omega | decide) (Nat.le_of_ble_eq_true rfl) (fun r4391 w4392 dc4388 ds4389 hp4390 => ?_) (fun _ _ _ _ _ z => z.elim)
      obtain ⟨o4393, rfl, rfl, hdc, hds, bo4393, x4394⟩ := hp4390
      change G _ _ _ _ _ _ _ (.int o4393 :: _) _ _ _
      refine G_widen (cs' := 0) (sl' := 0) (by omega) (by omega) ?_
      refine G_if_eq 58 dr_cX17_stand_45 (by decide +kernel) (fun hc4395 => ?_) (fun hc4395 => ?_)
      · have r4396 : o4393.toInt = 0 := gj_eq hc4395 (show Int32.toInt 0 = 0 by decide)
        have bo4393' : gB o4393 0 0 := ⟨by omega, by omega⟩
        refine G_aload_n 2 dr_cX17_stand_58 rfl ?_
        refine Gw_callV (As := []) (gV_ok D I) (cp_1693_Row_usesB l hl0 D I P4359 F4360 q4362 p4367 p4368 p4369 p4370 p4371 p4372 p4373 hm4365 he4366 bp4367 bp4368 bp4371 bp4372 bp4373) dr_cX17_stand_59 ⟨wr_10_196, wr_1_39, wr_10_199, by decide, rfl, (Nat.le_of_ble_eq_true rfl), (Nat.le_of_ble_eq_true rfl)⟩ wr_10_197 wr_10_198 hm4365 he4366 rfl (show 0 + 0 ≤ 0 by first | omega | decide) (show 0 + 0 ≤ 0 by first | omega | decide) (Nat.le_of_ble_eq_true rfl) (fun r4400 w4401 dc4397 ds4398 hp4399 => ?_) (fun _ _ _ _ _ z => z.elim)
        obtain ⟨o4402, rfl, rfl, hdc, hds, bo4402, x4403⟩ := hp4399
        change G _ _ _ _ _ _ _ (.int o4402 :: _) _ _ _
        refine G_widen (cs' := 0) (sl' := 0) (by omega) (by omega) ?_
        refine G_if_eq 75 dr_cX17_stand_62 (by decide +kernel) (fun hc4404 => ?_) (fun hc4404 => ?_)
        · have r4405 : o4402.toInt = 0 := gj_eq hc4404 (show Int32.toInt 0 = 0 by decide)
          have bo4402' : gB o4402 0 0 := ⟨by omega, by omega⟩
          exact G_vretA dr_cX17_stand_75 rfl (Nat.le_of_ble_eq_true rfl) (Nat.le_of_ble_eq_true rfl) ⟨F4360, rfl, rfl, hT, (rStr_rf (γ := γ) (W := []) (F := F4360)), (Nat.le_of_ble_eq_true rfl), (Nat.le_of_ble_eq_true rfl)⟩
        · have r4406 : o4402.toInt ≠ 0 := gj_neq hc4404 (show Int32.toInt 0 = 0 by decide)
          have bo4402' : gB o4402 1 1 := ⟨by omega, by omega⟩
          refine G_aload_n 1 dr_cX17_stand_65 rfl ?_
          have hm4407 : q4361 ∈ P4359 := RS_m hT htq4361 (by decide)
          obtain ⟨q4409, q4410, p4411, p4412, p4413, p4414, p4415, p4416, p4417, p4418, p4419, p4420, p4421, p4422, p4423, p4424, p4425, he4408, hB4452, ht4426, ht4427, ht4428, ht4429, ht4430, ht4431, ht4432, ht4433, ht4434, ht4435, ht4436, ht4437, ht4438, ht4439, ht4440, ht4441, ht4442, ht4443, ht4444, ht4445, ht4446, ht4447, ht4448, ht4449, hB4453⟩ := show rk_10 γ (F4360 q4361) from RS_o hT htq4361
          refine Gp_get 3 hm4407 he4408 dr_cX17_stand_66 (gk_X17 D I) (Nat.le_of_ble_eq_true rfl) wr_7_77 rfl ?_
          refine G_aload_n 2 dr_cX17_stand_69 rfl ?_
          refine Gp_get 3 hm4365 he4366 dr_cX17_stand_70 (gk_X15 D I) (Nat.le_of_ble_eq_true rfl) wr_9_190 rfl ?_
          refine G_iconst 1 dr_cX17_stand_73 (by decide +kernel) ?_
          have hm4454 : (γ 9 3) ∈ P4359 := RS_m hT ht4431 (by decide)
          obtain ⟨f4456, he4455, bf4456⟩ := show rk_14 I (F4360 (γ 9 3)) from RS_o hT ht4431
          refine Gp_zast 3 hm4454 he4455 dr_cX17_stand_74 rfl (gB_inr (by omega) (by omega)) (fun F4457 e4458 n4459 => ?_)
          obtain ⟨f4460, hf4460⟩ : ∃ z, z = upd f4456 p4370.toNatClampNeg (vp_nar .boolean 1) := ⟨_, rfl⟩
          rw [← hf4460] at e4458
          have he4461 : F4457 q4362 = .inr (20, [.int p4367, .int p4368, .int p4369, .int p4370, .int p4371, .int p4372, .int p4373]) := (n4459 q4362 (rn_oa he4366 he4455)).trans he4366
          have he4462 : F4457 q4361 = .inr (22, [.ref (γ 9 0), .ref (γ 9 1), .ref (γ 9 2), .ref (γ 9 3), .ref (γ 9 4), .ref (γ 9 5), .ref (γ 9 6), .ref (γ 9 7), .ref (γ 9 8), .int p4411, .int p4412, .int p4413, .int p4414, .int p4415, .int p4416, .ref (γ 9 15), .ref (γ 9 16), .ref (γ 9 17), .ref (γ 9 18), .ref (γ 9 19), .ref (γ 9 20), .ref (γ 9 21), .ref (γ 9 22), .int p4417, .int p4418, .int p4419, .int p4420, .int p4421, .ref q4409, .ref (γ 9 29), .int p4422, .ref (γ 9 31), .int p4423, .int p4424, .int p4425, .ref q4410]) := (n4459 q4361 (rn_oa he4408 he4455)).trans he4408
          have he4463 : F4457 (γ 9 3) = .inl (I .boolean, 2000, .inl f4460) := e4458
          have hs4464 : rStr γ [] F4360 F4457 := rStr_put (rStr_rf (γ := γ) (W := []) (F := F4360)) n4459 ht4431 (by decide)
          have bf4460 : gF f4460 0 1 := gF_upd hf4460 bf4456 (gB_w (gBl (show Int32.toInt 1 = 1 by decide)) (by decide) (by decide))
          have hT4465 : RS D I P4359 F4457 γ el := RS_set hT n4459 ht4431 (by decide) ⟨f4460, he4463, bf4460⟩
          exact G_vretA dr_cX17_stand_75 rfl (Nat.le_of_ble_eq_true rfl) (Nat.le_of_ble_eq_true rfl) ⟨F4457, rfl, rfl, hT4465, hs4464, (Nat.le_of_ble_eq_true rfl), (Nat.le_of_ble_eq_true rfl)⟩
      · have r4466 : o4393.toInt ≠ 0 := gj_neq hc4395 (show Int32.toInt 0 = 0 by decide)
        have bo4393' : gB o4393 1 1 := ⟨by omega, by omega⟩
        refine G_aload_n 1 dr_cX17_stand_48 rfl ?_
        have hm4467 : q4361 ∈ P4359 := RS_m hT htq4361 (by decide)
        obtain ⟨q4469, q4470, p4471, p4472, p4473, p4474, p4475, p4476, p4477, p4478, p4479, p4480, p4481, p4482, p4483, p4484, p4485, he4468, hB4512, ht4486, ht4487, ht4488, ht4489, ht4490, ht4491, ht4492, ht4493, ht4494, ht4495, ht4496, ht4497, ht4498, ht4499, ht4500, ht4501, ht4502, ht4503, ht4504, ht4505, ht4506, ht4507, ht4508, ht4509, hB4513⟩ := show rk_10 γ (F4360 q4361) from RS_o hT htq4361
        refine Gp_get 3 hm4467 he4468 dr_cX17_stand_49 (gk_X17 D I) (Nat.le_of_ble_eq_true rfl) wr_7_77 rfl ?_
        refine G_aload_n 2 dr_cX17_stand_52 rfl ?_
        refine Gp_get 2 hm4365 he4366 dr_cX17_stand_53 (gk_X15 D I) (Nat.le_of_ble_eq_true rfl) wr_9_186 rfl ?_
        refine G_iconst 1 dr_cX17_stand_56 (by decide +kernel) ?_
        have hm4514 : (γ 9 3) ∈ P4359 := RS_m hT ht4491 (by decide)
        obtain ⟨f4516, he4515, bf4516⟩ := show rk_14 I (F4360 (γ 9 3)) from RS_o hT ht4491
        refine Gp_zast 3 hm4514 he4515 dr_cX17_stand_57 rfl (gB_inr (by omega) (by omega)) (fun F4517 e4518 n4519 => ?_)
        obtain ⟨f4520, hf4520⟩ : ∃ z, z = upd f4516 p4369.toNatClampNeg (vp_nar .boolean 1) := ⟨_, rfl⟩
        rw [← hf4520] at e4518
        have he4521 : F4517 q4362 = .inr (20, [.int p4367, .int p4368, .int p4369, .int p4370, .int p4371, .int p4372, .int p4373]) := (n4519 q4362 (rn_oa he4366 he4515)).trans he4366
        have he4522 : F4517 q4361 = .inr (22, [.ref (γ 9 0), .ref (γ 9 1), .ref (γ 9 2), .ref (γ 9 3), .ref (γ 9 4), .ref (γ 9 5), .ref (γ 9 6), .ref (γ 9 7), .ref (γ 9 8), .int p4471, .int p4472, .int p4473, .int p4474, .int p4475, .int p4476, .ref (γ 9 15), .ref (γ 9 16), .ref (γ 9 17), .ref (γ 9 18), .ref (γ 9 19), .ref (γ 9 20), .ref (γ 9 21), .ref (γ 9 22), .int p4477, .int p4478, .int p4479, .int p4480, .int p4481, .ref q4469, .ref (γ 9 29), .int p4482, .ref (γ 9 31), .int p4483, .int p4484, .int p4485, .ref q4470]) := (n4519 q4361 (rn_oa he4468 he4515)).trans he4468
        have he4523 : F4517 (γ 9 3) = .inl (I .boolean, 2000, .inl f4520) := e4518
        have hs4524 : rStr γ [] F4360 F4517 := rStr_put (rStr_rf (γ := γ) (W := []) (F := F4360)) n4519 ht4491 (by decide)
        have bf4520 : gF f4520 0 1 := gF_upd hf4520 bf4516 (gB_w (gBl (show Int32.toInt 1 = 1 by decide)) (by decide) (by decide))
        refine G_aload_n 2 dr_cX17_stand_58 rfl ?_
        have hT4525 : RS D I P4359 F4517 γ el := RS_set hT n4519 ht4491 (by decide) ⟨f4520, he4523, bf4520⟩
        refine Gw_callV (As := []) (gV_ok D I) (cp_1693_Row_usesB l hl0 D I P4359 F4517 q4362 p4367 p4368 p4369 p4370 p4371 p4372 p4373 hm4365 he4521 bp4367 bp4368 bp4371 bp4372 bp4373) dr_cX17_stand_59 ⟨wr_10_196, wr_1_39, wr_10_199, by decide, rfl, (Nat.le_of_ble_eq_true rfl), (Nat.le_of_ble_eq_true rfl)⟩ wr_10_197 wr_10_198 hm4365 he4521 rfl (show 0 + 0 ≤ 0 by first | omega | decide) (show 0 + 0 ≤ 0 by first | omega | decide) (Nat.le_of_ble_eq_true rfl) (fun r4529 w4530 dc4526 ds4527 hp4528 => ?_) (fun _ _ _ _ _ z => z.elim)
        obtain ⟨o4531, rfl, rfl, hdc, hds, bo4531, x4532⟩ := hp4528
        change G _ _ _ _ _ _ _ (.int o4531 :: _) _ _ _
        refine G_widen (cs' := 0) (sl' := 0) (by omega) (by omega) ?_
        refine G_if_eq 75 dr_cX17_stand_62 (by decide +kernel) (fun hc4533 => ?_) (fun hc4533 => ?_)
        · have r4534 : o4531.toInt = 0 := gj_eq hc4533 (show Int32.toInt 0 = 0 by decide)
          have bo4531' : gB o4531 0 0 := ⟨by omega, by omega⟩
          exact G_vretA dr_cX17_stand_75 rfl (Nat.le_of_ble_eq_true rfl) (Nat.le_of_ble_eq_true rfl) ⟨F4517, rfl, rfl, hT4525, hs4524, (Nat.le_of_ble_eq_true rfl), (Nat.le_of_ble_eq_true rfl)⟩
        · have r4535 : o4531.toInt ≠ 0 := gj_neq hc4533 (show Int32.toInt 0 = 0 by decide)
          have bo4531' : gB o4531 1 1 := ⟨by omega, by omega⟩
          refine G_aload_n 1 dr_cX17_stand_65 rfl ?_
          refine Gp_get 3 hm4467 he4522 dr_cX17_stand_66 (gk_X17 D I) (Nat.le_of_ble_eq_true rfl) wr_7_77 rfl ?_
          refine G_aload_n 2 dr_cX17_stand_69 rfl ?_
          refine Gp_get 3 hm4365 he4521 dr_cX17_stand_70 (gk_X15 D I) (Nat.le_of_ble_eq_true rfl) wr_9_190 rfl ?_
          refine G_iconst 1 dr_cX17_stand_73 (by decide +kernel) ?_
          refine Gp_zast 3 hm4514 he4523 dr_cX17_stand_74 rfl (gB_inr (by omega) (by omega)) (fun F4536 e4537 n4538 => ?_)
          obtain ⟨f4539, hf4539⟩ : ∃ z, z = upd f4520 p4370.toNatClampNeg (vp_nar .boolean 1) := ⟨_, rfl⟩
          rw [← hf4539] at e4537
          have he4540 : F4536 q4362 = .inr (20, [.int p4367, .int p4368, .int p4369, .int p4370, .int p4371, .int p4372, .int p4373]) := (n4538 q4362 (rn_oa he4521 he4523)).trans he4521
          have he4541 : F4536 q4361 = .inr (22, [.ref (γ 9 0), .ref (γ 9 1), .ref (γ 9 2), .ref (γ 9 3), .ref (γ 9 4), .ref (γ 9 5), .ref (γ 9 6), .ref (γ 9 7), .ref (γ 9 8), .int p4471, .int p4472, .int p4473, .int p4474, .int p4475, .int p4476, .ref (γ 9 15), .ref (γ 9 16), .ref (γ 9 17), .ref (γ 9 18), .ref (γ 9 19), .ref (γ 9 20), .ref (γ 9 21), .ref (γ 9 22), .int p4477, .int p4478, .int p4479, .int p4480, .int p4481, .ref q4469, .ref (γ 9 29), .int p4482, .ref (γ 9 31), .int p4483, .int p4484, .int p4485, .ref q4470]) := (n4538 q4361 (rn_oa he4522 he4523)).trans he4522
          have he4542 : F4536 (γ 9 3) = .inl (I .boolean, 2000, .inl f4539) := e4537
          have hs4543 : rStr γ [] F4360 F4536 := rStr_put hs4524 n4538 ht4491 (by decide)
          have bf4539 : gF f4539 0 1 := gF_upd hf4539 bf4520 (gB_w (gBl (show Int32.toInt 1 = 1 by decide)) (by decide) (by decide))
          have hT4544 : RS D I P4359 F4536 γ el := RS_set hT4525 n4538 ht4491 (by decide) ⟨f4539, he4542, bf4539⟩
          exact G_vretA dr_cX17_stand_75 rfl (Nat.le_of_ble_eq_true rfl) (Nat.le_of_ble_eq_true rfl) ⟨F4536, rfl, rfl, hT4544, hs4543, (Nat.le_of_ble_eq_true rfl), (Nat.le_of_ble_eq_true rfl)⟩
    · have r4545 : p4363.toInt ≠ 0 := gj_neq hc4386 (show Int32.toInt 0 = 0 by decide)
      have bp4363' : gB p4363 1 1 := ⟨by omega, by omega⟩
      refine G_aload_n 2 dr_cX17_stand_21 rfl ?_
      refine Gp_get 0 hm4365 he4366 dr_cX17_stand_22 (gk_X15 D I) (Nat.le_of_ble_eq_true rfl) wr_9_177 rfl ?_
      refine G_bipush 21 dr_cX17_stand_25 (by decide +kernel) ?_
      refine G_icmp_ne 40 dr_cX17_stand_27 (by decide +kernel) (fun hc4546 => ?_) (fun hc4546 => ?_)
      · have r4547 : p4367.toInt ≠ 21 := gj_neq hc4546 (show Int32.toInt 21 = 21 by decide)
        exact G_vretA dr_cX17_stand_40 rfl (Nat.le_of_ble_eq_true rfl) (Nat.le_of_ble_eq_true rfl) ⟨F4360, rfl, rfl, hT, (rStr_rf (γ := γ) (W := []) (F := F4360)), (Nat.le_of_ble_eq_true rfl), (Nat.le_of_ble_eq_true rfl)⟩
      · have r4548 : p4367.toInt = 21 := gj_eq hc4546 (show Int32.toInt 21 = 21 by decide)
        have bp4367' : gB p4367 21 21 := ⟨by omega, by omega⟩
        refine G_aload_n 1 dr_cX17_stand_30 rfl ?_
        have hm4549 : q4361 ∈ P4359 := RS_m hT htq4361 (by decide)
        obtain ⟨q4551, q4552, p4553, p4554, p4555, p4556, p4557, p4558, p4559, p4560, p4561, p4562, p4563, p4564, p4565, p4566, p4567, he4550, hB4594, ht4568, ht4569, ht4570, ht4571, ht4572, ht4573, ht4574, ht4575, ht4576, ht4577, ht4578, ht4579, ht4580, ht4581, ht4582, ht4583, ht4584, ht4585, ht4586, ht4587, ht4588, ht4589, ht4590, ht4591, hB4595⟩ := show rk_10 γ (F4360 q4361) from RS_o hT htq4361
        refine Gp_get 3 hm4549 he4550 dr_cX17_stand_31 (gk_X17 D I) (Nat.le_of_ble_eq_true rfl) wr_7_77 rfl ?_
        refine G_aload_n 2 dr_cX17_stand_34 rfl ?_
        refine Gp_get 4 hm4365 he4366 dr_cX17_stand_35 (gk_X15 D I) (Nat.le_of_ble_eq_true rfl) wr_9_193 rfl ?_
        refine G_iconst 1 dr_cX17_stand_38 (by decide +kernel) ?_
        have hm4596 : (γ 9 3) ∈ P4359 := RS_m hT ht4573 (by decide)
        obtain ⟨f4598, he4597, bf4598⟩ := show rk_14 I (F4360 (γ 9 3)) from RS_o hT ht4573
        refine Gp_zast 3 hm4596 he4597 dr_cX17_stand_39 rfl (gB_in bp4371 (by decide) (by decide)) (fun F4599 e4600 n4601 => ?_)
        obtain ⟨f4602, hf4602⟩ : ∃ z, z = upd f4598 p4371.toNatClampNeg (vp_nar .boolean 1) := ⟨_, rfl⟩
        rw [← hf4602] at e4600
        have he4603 : F4599 q4362 = .inr (20, [.int p4367, .int p4368, .int p4369, .int p4370, .int p4371, .int p4372, .int p4373]) := (n4601 q4362 (rn_oa he4366 he4597)).trans he4366
        have he4604 : F4599 q4361 = .inr (22, [.ref (γ 9 0), .ref (γ 9 1), .ref (γ 9 2), .ref (γ 9 3), .ref (γ 9 4), .ref (γ 9 5), .ref (γ 9 6), .ref (γ 9 7), .ref (γ 9 8), .int p4553, .int p4554, .int p4555, .int p4556, .int p4557, .int p4558, .ref (γ 9 15), .ref (γ 9 16), .ref (γ 9 17), .ref (γ 9 18), .ref (γ 9 19), .ref (γ 9 20), .ref (γ 9 21), .ref (γ 9 22), .int p4559, .int p4560, .int p4561, .int p4562, .int p4563, .ref q4551, .ref (γ 9 29), .int p4564, .ref (γ 9 31), .int p4565, .int p4566, .int p4567, .ref q4552]) := (n4601 q4361 (rn_oa he4550 he4597)).trans he4550
        have he4605 : F4599 (γ 9 3) = .inl (I .boolean, 2000, .inl f4602) := e4600
        have hs4606 : rStr γ [] F4360 F4599 := rStr_put (rStr_rf (γ := γ) (W := []) (F := F4360)) n4601 ht4573 (by decide)
        have bf4602 : gF f4602 0 1 := gF_upd hf4602 bf4598 (gB_w (gBl (show Int32.toInt 1 = 1 by decide)) (by decide) (by decide))
        have hT4607 : RS D I P4359 F4599 γ el := RS_set hT n4601 ht4573 (by decide) ⟨f4602, he4605, bf4602⟩
        exact G_vretA dr_cX17_stand_40 rfl (Nat.le_of_ble_eq_true rfl) (Nat.le_of_ble_eq_true rfl) ⟨F4599, rfl, rfl, hT4607, hs4606, (Nat.le_of_ble_eq_true rfl), (Nat.le_of_ble_eq_true rfl)⟩
  · have r4608 : 0 ≤ o4383.toInt := gj_nlt hc4384 (show Int32.toInt 0 = 0 by decide)
    have bo4383' : gB o4383 0 1999 := ⟨by omega, by omega⟩
    refine G_aload_n 1 dr_cX17_stand_10 rfl ?_
    have hm4609 : q4361 ∈ P4359 := RS_m hT htq4361 (by decide)
    obtain ⟨q4611, q4612, p4613, p4614, p4615, p4616, p4617, p4618, p4619, p4620, p4621, p4622, p4623, p4624, p4625, p4626, p4627, he4610, hB4654, ht4628, ht4629, ht4630, ht4631, ht4632, ht4633, ht4634, ht4635, ht4636, ht4637, ht4638, ht4639, ht4640, ht4641, ht4642, ht4643, ht4644, ht4645, ht4646, ht4647, ht4648, ht4649, ht4650, ht4651, hB4655⟩ := show rk_10 γ (F4360 q4361) from RS_o hT htq4361
    refine Gp_get 3 hm4609 he4610 dr_cX17_stand_11 (gk_X17 D I) (Nat.le_of_ble_eq_true rfl) wr_7_77 rfl ?_
    refine G_iload_n 0 dr_cX17_stand_14 rfl ?_
    refine G_iconst 1 dr_cX17_stand_15 (by decide +kernel) ?_
    have hm4656 : (γ 9 3) ∈ P4359 := RS_m hT ht4633 (by decide)
    obtain ⟨f4658, he4657, bf4658⟩ := show rk_14 I (F4360 (γ 9 3)) from RS_o hT ht4633
    refine Gp_zast 3 hm4656 he4657 dr_cX17_stand_16 rfl (gB_in bo4383' (by decide) (by decide)) (fun F4659 e4660 n4661 => ?_)
    obtain ⟨f4662, hf4662⟩ : ∃ z, z = upd f4658 o4383.toNatClampNeg (vp_nar .boolean 1) := ⟨_, rfl⟩
    rw [← hf4662] at e4660
    have he4663 : F4659 q4362 = .inr (20, [.int p4367, .int p4368, .int p4369, .int p4370, .int p4371, .int p4372, .int p4373]) := (n4661 q4362 (rn_oa he4366 he4657)).trans he4366
    have he4664 : F4659 q4361 = .inr (22, [.ref (γ 9 0), .ref (γ 9 1), .ref (γ 9 2), .ref (γ 9 3), .ref (γ 9 4), .ref (γ 9 5), .ref (γ 9 6), .ref (γ 9 7), .ref (γ 9 8), .int p4613, .int p4614, .int p4615, .int p4616, .int p4617, .int p4618, .ref (γ 9 15), .ref (γ 9 16), .ref (γ 9 17), .ref (γ 9 18), .ref (γ 9 19), .ref (γ 9 20), .ref (γ 9 21), .ref (γ 9 22), .int p4619, .int p4620, .int p4621, .int p4622, .int p4623, .ref q4611, .ref (γ 9 29), .int p4624, .ref (γ 9 31), .int p4625, .int p4626, .int p4627, .ref q4612]) := (n4661 q4361 (rn_oa he4610 he4657)).trans he4610
    have he4665 : F4659 (γ 9 3) = .inl (I .boolean, 2000, .inl f4662) := e4660
    have hs4666 : rStr γ [] F4360 F4659 := rStr_put (rStr_rf (γ := γ) (W := []) (F := F4360)) n4661 ht4633 (by decide)
    have bf4662 : gF f4662 0 1 := gF_upd hf4662 bf4658 (gB_w (gBl (show Int32.toInt 1 = 1 by decide)) (by decide) (by decide))
    refine G_iload_n 3 dr_cX17_stand_17 rfl ?_
    refine G_if_eq 41 dr_cX17_stand_18 (by decide +kernel) (fun hc4667 => ?_) (fun hc4667 => ?_)
    · have r4668 : p4363.toInt = 0 := gj_eq hc4667 (show Int32.toInt 0 = 0 by decide)
      have bp4363' : gB p4363 0 0 := ⟨by omega, by omega⟩
      refine G_aload_n 2 dr_cX17_stand_41 rfl ?_
      have hT4669 : RS D I P4359 F4659 γ el := RS_set hT n4661 ht4633 (by decide) ⟨f4662, he4665, bf4662⟩
      refine Gw_callV (As := []) (gV_ok D I) (cp_1669_Row_usesA l hl0 D I P4359 F4659 q4362 p4367 p4368 p4369 p4370 p4371 p4372 p4373 hm4365 he4663 bp4367 bp4368 bp4371 bp4372 bp4373) dr_cX17_stand_42 ⟨wr_10_192, wr_1_39, wr_10_195, by decide, rfl, (Nat.le_of_ble_eq_true rfl), (Nat.le_of_ble_eq_true rfl)⟩ wr_10_193 wr_10_194 hm4365 he4663 rfl (show 0 + 0 ≤ 0 by first | omega | decide) (show 0 + 0 ≤ 0 by first | omega | decide) (Nat.le_of_ble_eq_true rfl) (fun r4673 w4674 dc4670 ds4671 hp4672 => ?_) (fun _ _ _ _ _ z => z.elim)
      obtain ⟨o4675, rfl, rfl, hdc, hds, bo4675, x4676⟩ := hp4672
      change G _ _ _ _ _ _ _ (.int o4675 :: _) _ _ _
      refine G_widen (cs' := 0) (sl' := 0) (by omega) (by omega) ?_
      refine G_if_eq 58 dr_cX17_stand_45 (by decide +kernel) (fun hc4677 => ?_) (fun hc4677 => ?_)
      · have r4678 : o4675.toInt = 0 := gj_eq hc4677 (show Int32.toInt 0 = 0 by decide)
        have bo4675' : gB o4675 0 0 := ⟨by omega, by omega⟩
        refine G_aload_n 2 dr_cX17_stand_58 rfl ?_
        refine Gw_callV (As := []) (gV_ok D I) (cp_1693_Row_usesB l hl0 D I P4359 F4659 q4362 p4367 p4368 p4369 p4370 p4371 p4372 p4373 hm4365 he4663 bp4367 bp4368 bp4371 bp4372 bp4373) dr_cX17_stand_59 ⟨wr_10_196, wr_1_39, wr_10_199, by decide, rfl, (Nat.le_of_ble_eq_true rfl), (Nat.le_of_ble_eq_true rfl)⟩ wr_10_197 wr_10_198 hm4365 he4663 rfl (show 0 + 0 ≤ 0 by first | omega | decide) (show 0 + 0 ≤ 0 by first | omega | decide) (Nat.le_of_ble_eq_true rfl) (fun r4682 w4683 dc4679 ds4680 hp4681 => ?_) (fun _ _ _ _ _ z => z.elim)
        obtain ⟨o4684, rfl, rfl, hdc, hds, bo4684, x4685⟩ := hp4681
        change G _ _ _ _ _ _ _ (.int o4684 :: _) _ _ _
        refine G_widen (cs' := 0) (sl' := 0) (by omega) (by omega) ?_
        refine G_if_eq 75 dr_cX17_stand_62 (by decide +kernel) (fun hc4686 => ?_) (fun hc4686 => ?_)
        · have r4687 : o4684.toInt = 0 := gj_eq hc4686 (show Int32.toInt 0 = 0 by decide)
          have bo4684' : gB o4684 0 0 := ⟨by omega, by omega⟩
          exact G_vretA dr_cX17_stand_75 rfl (Nat.le_of_ble_eq_true rfl) (Nat.le_of_ble_eq_true rfl) ⟨F4659, rfl, rfl, hT4669, hs4666, (Nat.le_of_ble_eq_true rfl), (Nat.le_of_ble_eq_true rfl)⟩
        · have r4688 : o4684.toInt ≠ 0 := gj_neq hc4686 (show Int32.toInt 0 = 0 by decide)
          have bo4684' : gB o4684 1 1 := ⟨by omega, by omega⟩
          refine G_aload_n 1 dr_cX17_stand_65 rfl ?_
          refine Gp_get 3 hm4609 he4664 dr_cX17_stand_66 (gk_X17 D I) (Nat.le_of_ble_eq_true rfl) wr_7_77 rfl ?_
          refine G_aload_n 2 dr_cX17_stand_69 rfl ?_
          refine Gp_get 3 hm4365 he4663 dr_cX17_stand_70 (gk_X15 D I) (Nat.le_of_ble_eq_true rfl) wr_9_190 rfl ?_
          refine G_iconst 1 dr_cX17_stand_73 (by decide +kernel) ?_
          refine Gp_zast 3 hm4656 he4665 dr_cX17_stand_74 rfl (gB_inr (by omega) (by omega)) (fun F4689 e4690 n4691 => ?_)
          obtain ⟨f4692, hf4692⟩ : ∃ z, z = upd f4662 p4370.toNatClampNeg (vp_nar .boolean 1) := ⟨_, rfl⟩
          rw [← hf4692] at e4690
          have he4693 : F4689 q4362 = .inr (20, [.int p4367, .int p4368, .int p4369, .int p4370, .int p4371, .int p4372, .int p4373]) := (n4691 q4362 (rn_oa he4663 he4665)).trans he4663
          have he4694 : F4689 q4361 = .inr (22, [.ref (γ 9 0), .ref (γ 9 1), .ref (γ 9 2), .ref (γ 9 3), .ref (γ 9 4), .ref (γ 9 5), .ref (γ 9 6), .ref (γ 9 7), .ref (γ 9 8), .int p4613, .int p4614, .int p4615, .int p4616, .int p4617, .int p4618, .ref (γ 9 15), .ref (γ 9 16), .ref (γ 9 17), .ref (γ 9 18), .ref (γ 9 19), .ref (γ 9 20), .ref (γ 9 21), .ref (γ 9 22), .int p4619, .int p4620, .int p4621, .int p4622, .int p4623, .ref q4611, .ref (γ 9 29), .int p4624, .ref (γ 9 31), .int p4625, .int p4626, .int p4627, .ref q4612]) := (n4691 q4361 (rn_oa he4664 he4665)).trans he4664
          have he4695 : F4689 (γ 9 3) = .inl (I .boolean, 2000, .inl f4692) := e4690
          have hs4696 : rStr γ [] F4360 F4689 := rStr_put hs4666 n4691 ht4633 (by decide)
          have bf4692 : gF f4692 0 1 := gF_upd hf4692 bf4662 (gB_w (gBl (show Int32.toInt 1 = 1 by decide)) (by decide) (by decide))
          have hT4697 : RS D I P4359 F4689 γ el := RS_set hT4669 n4691 ht4633 (by decide) ⟨f4692, he4695, bf4692⟩
          exact G_vretA dr_cX17_stand_75 rfl (Nat.le_of_ble_eq_true rfl) (Nat.le_of_ble_eq_true rfl) ⟨F4689, rfl, rfl, hT4697, hs4696, (Nat.le_of_ble_eq_true rfl), (Nat.le_of_ble_eq_true rfl)⟩
      · have r4698 : o4675.toInt ≠ 0 := gj_neq hc4677 (show Int32.toInt 0 = 0 by decide)
        have bo4675' : gB o4675 1 1 := ⟨by omega, by omega⟩
        refine G_aload_n 1 dr_cX17_stand_48 rfl ?_
        refine Gp_get 3 hm4609 he4664 dr_cX17_stand_49 (gk_X17 D I) (Nat.le_of_ble_eq_true rfl) wr_7_77 rfl ?_
        refine G_aload_n 2 dr_cX17_stand_52 rfl ?_
        refine Gp_get 2 hm4365 he4663 dr_cX17_stand_53 (gk_X15 D I) (Nat.le_of_ble_eq_true rfl) wr_9_186 rfl ?_
        refine G_iconst 1 dr_cX17_stand_56 (by decide +kernel) ?_
        refine Gp_zast 3 hm4656 he4665 dr_cX17_stand_57 rfl (gB_inr (by omega) (by omega)) (fun F4699 e4700 n4701 => ?_)
        obtain ⟨f4702, hf4702⟩ : ∃ z, z = upd f4662 p4369.toNatClampNeg (vp_nar .boolean 1) := ⟨_, rfl⟩
        rw [← hf4702] at e4700
        have he4703 : F4699 q4362 = .inr (20, [.int p4367, .int p4368, .int p4369, .int p4370, .int p4371, .int p4372, .int p4373]) := (n4701 q4362 (rn_oa he4663 he4665)).trans he4663
        have he4704 : F4699 q4361 = .inr (22, [.ref (γ 9 0), .ref (γ 9 1), .ref (γ 9 2), .ref (γ 9 3), .ref (γ 9 4), .ref (γ 9 5), .ref (γ 9 6), .ref (γ 9 7), .ref (γ 9 8), .int p4613, .int p4614, .int p4615, .int p4616, .int p4617, .int p4618, .ref (γ 9 15), .ref (γ 9 16), .ref (γ 9 17), .ref (γ 9 18), .ref (γ 9 19), .ref (γ 9 20), .ref (γ 9 21), .ref (γ 9 22), .int p4619, .int p4620, .int p4621, .int p4622, .int p4623, .ref q4611, .ref (γ 9 29), .int p4624, .ref (γ 9 31), .int p4625, .int p4626, .int p4627, .ref q4612]) := (n4701 q4361 (rn_oa he4664 he4665)).trans he4664
        have he4705 : F4699 (γ 9 3) = .inl (I .boolean, 2000, .inl f4702) := e4700
        have hs4706 : rStr γ [] F4360 F4699 := rStr_put hs4666 n4701 ht4633 (by decide)
        have bf4702 : gF f4702 0 1 := gF_upd hf4702 bf4662 (gB_w (gBl (show Int32.toInt 1 = 1 by decide)) (by decide) (by decide))
        refine G_aload_n 2 dr_cX17_stand_58 rfl ?_
        have hT4707 : RS D I P4359 F4699 γ el := RS_set hT4669 n4701 ht4633 (by decide) ⟨f4702, he4705, bf4702⟩
        refine Gw_callV (As := []) (gV_ok D I) (cp_1693_Row_usesB l hl0 D I P4359 F4699 q4362 p4367 p4368 p4369 p4370 p4371 p4372 p4373 hm4365 he4703 bp4367 bp4368 bp4371 bp4372 bp4373) dr_cX17_stand_59 ⟨wr_10_196, wr_1_39, wr_10_199, by decide, rfl, (Nat.le_of_ble_eq_true rfl), (Nat.le_of_ble_eq_true rfl)⟩ wr_10_197 wr_10_198 hm4365 he4703 rfl (show 0 + 0 ≤ 0 by first | omega | decide) (show 0 + 0 ≤ 0 by first | omega | decide) (Nat.le_of_ble_eq_true rfl) (fun r4711 w4712 dc4708 ds4709 hp4710 => ?_) (fun _ _ _ _ _ z => z.elim)
        obtain ⟨o4713, rfl, rfl, hdc, hds, bo4713, x4714⟩ := hp4710
        change G _ _ _ _ _ _ _ (.int o4713 :: _) _ _ _
        refine G_widen (cs' := 0) (sl' := 0) (by omega) (by omega) ?_
        refine G_if_eq 75 dr_cX17_stand_62 (by decide +kernel) (fun hc4715 => ?_) (fun hc4715 => ?_)
        · have r4716 : o4713.toInt = 0 := gj_eq hc4715 (show Int32.toInt 0 = 0 by decide)
          have bo4713' : gB o4713 0 0 := ⟨by omega, by omega⟩
          exact G_vretA dr_cX17_stand_75 rfl (Nat.le_of_ble_eq_true rfl) (Nat.le_of_ble_eq_true rfl) ⟨F4699, rfl, rfl, hT4707, hs4706, (Nat.le_of_ble_eq_true rfl), (Nat.le_of_ble_eq_true rfl)⟩
        · have r4717 : o4713.toInt ≠ 0 := gj_neq hc4715 (show Int32.toInt 0 = 0 by decide)
          have bo4713' : gB o4713 1 1 := ⟨by omega, by omega⟩
          refine G_aload_n 1 dr_cX17_stand_65 rfl ?_
          refine Gp_get 3 hm4609 he4704 dr_cX17_stand_66 (gk_X17 D I) (Nat.le_of_ble_eq_true rfl) wr_7_77 rfl ?_
          refine G_aload_n 2 dr_cX17_stand_69 rfl ?_
          refine Gp_get 3 hm4365 he4703 dr_cX17_stand_70 (gk_X15 D I) (Nat.le_of_ble_eq_true rfl) wr_9_190 rfl ?_
          refine G_iconst 1 dr_cX17_stand_73 (by decide +kernel) ?_
          refine Gp_zast 3 hm4656 he4705 dr_cX17_stand_74 rfl (gB_inr (by omega) (by omega)) (fun F4718 e4719 n4720 => ?_)
          obtain ⟨f4721, hf4721⟩ : ∃ z, z = upd f4702 p4370.toNatClampNeg (vp_nar .boolean 1) := ⟨_, rfl⟩
          rw [← hf4721] at e4719
          have he4722 : F4718 q4362 = .inr (20, [.int p4367, .int p4368, .int p4369, .int p4370, .int p4371, .int p4372, .int p4373]) := (n4720 q4362 (rn_oa he4703 he4705)).trans he4703
          have he4723 : F4718 q4361 = .inr (22, [.ref (γ 9 0), .ref (γ 9 1), .ref (γ 9 2), .ref (γ 9 3), .ref (γ 9 4), .ref (γ 9 5), .ref (γ 9 6), .ref (γ 9 7), .ref (γ 9 8), .int p4613, .int p4614, .int p4615, .int p4616, .int p4617, .int p4618, .ref (γ 9 15), .ref (γ 9 16), .ref (γ 9 17), .ref (γ 9 18), .ref (γ 9 19), .ref (γ 9 20), .ref (γ 9 21), .ref (γ 9 22), .int p4619, .int p4620, .int p4621, .int p4622, .int p4623, .ref q4611, .ref (γ 9 29), .int p4624, .ref (γ 9 31), .int p4625, .int p4626, .int p4627, .ref q4612]) := (n4720 q4361 (rn_oa he4704 he4705)).trans he4704
          have he4724 : F4718 (γ 9 3) = .inl (I .boolean, 2000, .inl f4721) := e4719
          have hs4725 : rStr γ [] F4360 F4718 := rStr_put hs4706 n4720 ht4633 (by decide)
          have bf4721 : gF f4721 0 1 := gF_upd hf4721 bf4702 (gB_w (gBl (show Int32.toInt 1 = 1 by decide)) (by decide) (by decide))
          have hT4726 : RS D I P4359 F4718 γ el := RS_set hT4707 n4720 ht4633 (by decide) ⟨f4721, he4724, bf4721⟩
          exact G_vretA dr_cX17_stand_75 rfl (Nat.le_of_ble_eq_true rfl) (Nat.le_of_ble_eq_true rfl) ⟨F4718, rfl, rfl, hT4726, hs4725, (Nat.le_of_ble_eq_true rfl), (Nat.le_of_ble_eq_true rfl)⟩
    · have r4727 : p4363.toInt ≠ 0 := gj_neq hc4667 (show Int32.toInt 0 = 0 by decide)
      have bp4363' : gB p4363 1 1 := ⟨by omega, by omega⟩
      refine G_aload_n 2 dr_cX17_stand_21 rfl ?_
      refine Gp_get 0 hm4365 he4663 dr_cX17_stand_22 (gk_X15 D I) (Nat.le_of_ble_eq_true rfl) wr_9_177 rfl ?_
      refine G_bipush 21 dr_cX17_stand_25 (by decide +kernel) ?_
      refine G_icmp_ne 40 dr_cX17_stand_27 (by decide +kernel) (fun hc4728 => ?_) (fun hc4728 => ?_)
      · have r4729 : p4367.toInt ≠ 21 := gj_neq hc4728 (show Int32.toInt 21 = 21 by decide)
        have hT4730 : RS D I P4359 F4659 γ el := RS_set hT n4661 ht4633 (by decide) ⟨f4662, he4665, bf4662⟩
        exact G_vretA dr_cX17_stand_40 rfl (Nat.le_of_ble_eq_true rfl) (Nat.le_of_ble_eq_true rfl) ⟨F4659, rfl, rfl, hT4730, hs4666, (Nat.le_of_ble_eq_true rfl), (Nat.le_of_ble_eq_true rfl)⟩
      · have r4731 : p4367.toInt = 21 := gj_eq hc4728 (show Int32.toInt 21 = 21 by decide)
        have bp4367' : gB p4367 21 21 := ⟨by omega, by omega⟩
        refine G_aload_n 1 dr_cX17_stand_30 rfl ?_
        refine Gp_get 3 hm4609 he4664 dr_cX17_stand_31 (gk_X17 D I) (Nat.le_of_ble_eq_true rfl) wr_7_77 rfl ?_
        refine G_aload_n 2 dr_cX17_stand_34 rfl ?_
        refine Gp_get 4 hm4365 he4663 dr_cX17_stand_35 (gk_X15 D I) (Nat.le_of_ble_eq_true rfl) wr_9_193 rfl ?_
        refine G_iconst 1 dr_cX17_stand_38 (by decide +kernel) ?_
        refine Gp_zast 3 hm4656 he4665 dr_cX17_stand_39 rfl (gB_in bp4371 (by decide) (by decide)) (fun F4732 e4733 n4734 => ?_)
        obtain ⟨f4735, hf4735⟩ : ∃ z, z = upd f4662 p4371.toNatClampNeg (vp_nar .boolean 1) := ⟨_, rfl⟩
        rw [← hf4735] at e4733
        have he4736 : F4732 q4362 = .inr (20, [.int p4367, .int p4368, .int p4369, .int p4370, .int p4371, .int p4372, .int p4373]) := (n4734 q4362 (rn_oa he4663 he4665)).trans he4663
        have he4737 : F4732 q4361 = .inr (22, [.ref (γ 9 0), .ref (γ 9 1), .ref (γ 9 2), .ref (γ 9 3), .ref (γ 9 4), .ref (γ 9 5), .ref (γ 9 6), .ref (γ 9 7), .ref (γ 9 8), .int p4613, .int p4614, .int p4615, .int p4616, .int p4617, .int p4618, .ref (γ 9 15), .ref (γ 9 16), .ref (γ 9 17), .ref (γ 9 18), .ref (γ 9 19), .ref (γ 9 20), .ref (γ 9 21), .ref (γ 9 22), .int p4619, .int p4620, .int p4621, .int p4622, .int p4623, .ref q4611, .ref (γ 9 29), .int p4624, .ref (γ 9 31), .int p4625, .int p4626, .int p4627, .ref q4612]) := (n4734 q4361 (rn_oa he4664 he4665)).trans he4664
        have he4738 : F4732 (γ 9 3) = .inl (I .boolean, 2000, .inl f4735) := e4733
        have hs4739 : rStr γ [] F4360 F4732 := rStr_put hs4666 n4734 ht4633 (by decide)
        have n4740 : ∀ b, b ≠ (γ 9 3) → F4732 b = F4360 b := fun b hb => (n4734 b hb).trans (n4661 b hb)
        have bf4735 : gF f4735 0 1 := gF_upd hf4735 bf4662 (gB_w (gBl (show Int32.toInt 1 = 1 by decide)) (by decide) (by decide))
        have hT4741 : RS D I P4359 F4732 γ el := RS_set hT n4740 ht4633 (by decide) ⟨f4735, he4738, bf4735⟩
        exact G_vretA dr_cX17_stand_40 rfl (Nat.le_of_ble_eq_true rfl) (Nat.le_of_ble_eq_true rfl) ⟨F4732, rfl, rfl, hT4741, hs4739, (Nat.le_of_ble_eq_true rfl), (Nat.le_of_ble_eq_true rfl)⟩
