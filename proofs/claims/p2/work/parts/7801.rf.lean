theorem dr_cX17_back_0 : decode cX17_back 0 = .ok (.aload_n 1, 1) := by decide +kernel
theorem dr_cX17_back_1 : decode cX17_back 1 = .ok (.iload_n 2, 1) := by decide +kernel
theorem dr_cX17_back_2 : decode cX17_back 2 = .ok (.invokestatic 55, 3) := by decide +kernel
theorem wr_10_178 : (Jvm.Cond.methodLink "SpillForgeModel" (55 : Nat) ({ cls := "SpillForgeModel", name := "setOf", desc := "(LSpillForgeModel$Row;Z)I" } : Jvm.MethodName)) ∈ gw := gw_10 178 rfl rfl
theorem wr_1_14 : (Jvm.Cond.initialized "SpillForgeModel") ∈ gw := gw_1 14 rfl rfl
theorem wr_10_180 : (Jvm.Cond.code ({ cls := "SpillForgeModel", name := "setOf", desc := "(LSpillForgeModel$Row;Z)I" } : Jvm.MethodName) prog_14_method_6_code (2 : Nat) (Option.some Jvm.ClassFile.FieldType.int)) ∈ gw := gw_10 180 rfl rfl
theorem wr_10_179 : (Jvm.Cond.static ({ cls := "SpillForgeModel", name := "setOf", desc := "(LSpillForgeModel$Row;Z)I" } : Jvm.MethodName)) ∈ gw := gw_10 179 rfl rfl
theorem dr_cX17_back_5 : decode cX17_back 5 = .ok (.istore_n 3, 1) := by decide +kernel
theorem dr_cX17_back_6 : decode cX17_back 6 = .ok (.iload_n 3, 1) := by decide +kernel
theorem dr_cX17_back_7 : decode cX17_back 7 = .ok (.ifCond .lt 11, 3) := by decide +kernel
theorem dr_cX17_back_18 : decode cX17_back 18 = .ok (.iload_n 2, 1) := by decide +kernel
theorem dr_cX17_back_19 : decode cX17_back 19 = .ok (.ifCond .eq 24, 3) := by decide +kernel
theorem dr_cX17_back_43 : decode cX17_back 43 = .ok (.aload_n 1, 1) := by decide +kernel
theorem dr_cX17_back_44 : decode cX17_back 44 = .ok (.invokevirtual 70, 3) := by decide +kernel
theorem wr_10_192 : (Jvm.Cond.methodLink "SpillForgeModel" (70 : Nat) ({ cls := "SpillForgeModel$Row", name := "usesA", desc := "()Z" } : Jvm.MethodName)) ∈ gw := gw_10 192 rfl rfl
theorem wr_10_195 : (Jvm.Cond.code ({ cls := "SpillForgeModel$Row", name := "usesA", desc := "()Z" } : Jvm.MethodName) prog_18_method_3_code (1 : Nat) (Option.some Jvm.ClassFile.FieldType.boolean)) ∈ gw := gw_10 195 rfl rfl
theorem wr_10_193 : (Jvm.Cond.instanceMethod ({ cls := "SpillForgeModel$Row", name := "usesA", desc := "()Z" } : Jvm.MethodName)) ∈ gw := gw_10 193 rfl rfl
theorem wr_10_194 : (Jvm.Cond.selects "SpillForgeModel$Row" ({ cls := "SpillForgeModel$Row", name := "usesA", desc := "()Z" } : Jvm.MethodName) ({ cls := "SpillForgeModel$Row", name := "usesA", desc := "()Z" } : Jvm.MethodName)) ∈ gw := gw_10 194 rfl rfl
theorem dr_cX17_back_47 : decode cX17_back 47 = .ok (.ifCond .eq 14, 3) := by decide +kernel
theorem dr_cX17_back_61 : decode cX17_back 61 = .ok (.aload_n 1, 1) := by decide +kernel
theorem dr_cX17_back_62 : decode cX17_back 62 = .ok (.invokevirtual 76, 3) := by decide +kernel
theorem wr_10_196 : (Jvm.Cond.methodLink "SpillForgeModel" (76 : Nat) ({ cls := "SpillForgeModel$Row", name := "usesB", desc := "()Z" } : Jvm.MethodName)) ∈ gw := gw_10 196 rfl rfl
theorem wr_10_199 : (Jvm.Cond.code ({ cls := "SpillForgeModel$Row", name := "usesB", desc := "()Z" } : Jvm.MethodName) prog_18_method_4_code (1 : Nat) (Option.some Jvm.ClassFile.FieldType.boolean)) ∈ gw := gw_10 199 rfl rfl
theorem wr_10_197 : (Jvm.Cond.instanceMethod ({ cls := "SpillForgeModel$Row", name := "usesB", desc := "()Z" } : Jvm.MethodName)) ∈ gw := gw_10 197 rfl rfl
theorem wr_10_198 : (Jvm.Cond.selects "SpillForgeModel$Row" ({ cls := "SpillForgeModel$Row", name := "usesB", desc := "()Z" } : Jvm.MethodName) ({ cls := "SpillForgeModel$Row", name := "usesB", desc := "()Z" } : Jvm.MethodName)) ∈ gw := gw_10 198 rfl rfl
theorem dr_cX17_back_65 : decode cX17_back 65 = .ok (.ifCond .eq 14, 3) := by decide +kernel
theorem dr_cX17_back_79 : decode cX17_back 79 = .ok (.return_, 1) := by decide +kernel
theorem dr_cX17_back_68 : decode cX17_back 68 = .ok (.aload_n 0, 1) := by decide +kernel
theorem dr_cX17_back_69 : decode cX17_back 69 = .ok (.getfield 59, 3) := by decide +kernel
theorem wr_7_76 : (Jvm.Cond.fieldLink "SpillForgeModel" (59 : Nat) "SpillForgeModel" "now" "[J") ∈ gw := gw_7 76 rfl rfl
theorem dr_cX17_back_72 : decode cX17_back 72 = .ok (.aload_n 1, 1) := by decide +kernel
theorem dr_cX17_back_73 : decode cX17_back 73 = .ok (.getfield 79, 3) := by decide +kernel
theorem wr_9_190 : (Jvm.Cond.fieldLink "SpillForgeModel" (79 : Nat) "SpillForgeModel$Row" "b" "I") ∈ gw := gw_9 190 rfl rfl
theorem dr_cX17_back_76 : decode cX17_back 76 = .ok (.invokestatic 67, 3) := by decide +kernel
theorem wr_10_189 : (Jvm.Cond.methodLink "SpillForgeModel" (67 : Nat) ({ cls := "SpillForgeModel", name := "set", desc := "([JI)V" } : Jvm.MethodName)) ∈ gw := gw_10 189 rfl rfl
theorem wr_10_191 : (Jvm.Cond.code ({ cls := "SpillForgeModel", name := "set", desc := "([JI)V" } : Jvm.MethodName) prog_14_method_3_code (2 : Nat) (Option.none : Option Jvm.ClassFile.FieldType)) ∈ gw := gw_10 191 rfl rfl
theorem wr_10_190 : (Jvm.Cond.static ({ cls := "SpillForgeModel", name := "set", desc := "([JI)V" } : Jvm.MethodName)) ∈ gw := gw_10 190 rfl rfl
theorem dr_cX17_back_50 : decode cX17_back 50 = .ok (.aload_n 0, 1) := by decide +kernel
theorem dr_cX17_back_51 : decode cX17_back 51 = .ok (.getfield 59, 3) := by decide +kernel
theorem dr_cX17_back_54 : decode cX17_back 54 = .ok (.aload_n 1, 1) := by decide +kernel
theorem dr_cX17_back_55 : decode cX17_back 55 = .ok (.getfield 73, 3) := by decide +kernel
theorem wr_9_186 : (Jvm.Cond.fieldLink "SpillForgeModel" (73 : Nat) "SpillForgeModel$Row" "a" "I") ∈ gw := gw_9 186 rfl rfl
theorem dr_cX17_back_58 : decode cX17_back 58 = .ok (.invokestatic 67, 3) := by decide +kernel
theorem dr_cX17_back_22 : decode cX17_back 22 = .ok (.aload_n 1, 1) := by decide +kernel
theorem dr_cX17_back_23 : decode cX17_back 23 = .ok (.getfield 39, 3) := by decide +kernel
theorem dr_cX17_back_26 : decode cX17_back 26 = .ok (.bipush 21, 2) := by decide +kernel
theorem dr_cX17_back_28 : decode cX17_back 28 = .ok (.if_icmp .ne 14, 3) := by decide +kernel
theorem dr_cX17_back_42 : decode cX17_back 42 = .ok (.return_, 1) := by decide +kernel
theorem dr_cX17_back_31 : decode cX17_back 31 = .ok (.aload_n 0, 1) := by decide +kernel
theorem dr_cX17_back_32 : decode cX17_back 32 = .ok (.getfield 59, 3) := by decide +kernel
theorem dr_cX17_back_35 : decode cX17_back 35 = .ok (.aload_n 1, 1) := by decide +kernel
theorem dr_cX17_back_36 : decode cX17_back 36 = .ok (.getfield 45, 3) := by decide +kernel
theorem dr_cX17_back_39 : decode cX17_back 39 = .ok (.invokestatic 67, 3) := by decide +kernel
theorem dr_cX17_back_10 : decode cX17_back 10 = .ok (.aload_n 0, 1) := by decide +kernel
theorem dr_cX17_back_11 : decode cX17_back 11 = .ok (.getfield 59, 3) := by decide +kernel
theorem dr_cX17_back_14 : decode cX17_back 14 = .ok (.iload_n 3, 1) := by decide +kernel
theorem dr_cX17_back_15 : decode cX17_back 15 = .ok (.invokestatic 63, 3) := by decide +kernel
theorem wr_10_185 : (Jvm.Cond.methodLink "SpillForgeModel" (63 : Nat) ({ cls := "SpillForgeModel", name := "clear", desc := "([JI)V" } : Jvm.MethodName)) ∈ gw := gw_10 185 rfl rfl
theorem wr_10_187 : (Jvm.Cond.code ({ cls := "SpillForgeModel", name := "clear", desc := "([JI)V" } : Jvm.MethodName) prog_14_method_4_code (2 : Nat) (Option.none : Option Jvm.ClassFile.FieldType)) ∈ gw := gw_10 187 rfl rfl
theorem wr_10_186 : (Jvm.Cond.static ({ cls := "SpillForgeModel", name := "clear", desc := "([JI)V" } : Jvm.MethodName)) ∈ gw := gw_10 186 rfl rfl
theorem dr_cX17_stand_0 : decode cX17_stand 0 = .ok (.aload_n 1, 1) := by decide +kernel
theorem dr_cX17_stand_1 : decode cX17_stand 1 = .ok (.iload_n 2, 1) := by decide +kernel
theorem dr_cX17_stand_2 : decode cX17_stand 2 = .ok (.invokestatic 55, 3) := by decide +kernel
theorem dr_cX17_stand_5 : decode cX17_stand 5 = .ok (.istore_n 3, 1) := by decide +kernel
theorem dr_cX17_stand_6 : decode cX17_stand 6 = .ok (.iload_n 3, 1) := by decide +kernel
theorem dr_cX17_stand_7 : decode cX17_stand 7 = .ok (.ifCond .lt 10, 3) := by decide +kernel
theorem dr_cX17_stand_17 : decode cX17_stand 17 = .ok (.iload_n 2, 1) := by decide +kernel
theorem dr_cX17_stand_18 : decode cX17_stand 18 = .ok (.ifCond .eq 23, 3) := by decide +kernel
theorem dr_cX17_stand_41 : decode cX17_stand 41 = .ok (.aload_n 1, 1) := by decide +kernel
theorem dr_cX17_stand_42 : decode cX17_stand 42 = .ok (.invokevirtual 70, 3) := by decide +kernel
theorem dr_cX17_stand_45 : decode cX17_stand 45 = .ok (.ifCond .eq 13, 3) := by decide +kernel
theorem dr_cX17_stand_58 : decode cX17_stand 58 = .ok (.aload_n 1, 1) := by decide +kernel
theorem dr_cX17_stand_59 : decode cX17_stand 59 = .ok (.invokevirtual 76, 3) := by decide +kernel
theorem dr_cX17_stand_62 : decode cX17_stand 62 = .ok (.ifCond .eq 13, 3) := by decide +kernel
theorem dr_cX17_stand_75 : decode cX17_stand 75 = .ok (.return_, 1) := by decide +kernel
theorem dr_cX17_stand_65 : decode cX17_stand 65 = .ok (.aload_n 0, 1) := by decide +kernel
theorem dr_cX17_stand_66 : decode cX17_stand 66 = .ok (.getfield 131, 3) := by decide +kernel
theorem wr_7_77 : (Jvm.Cond.fieldLink "SpillForgeModel" (131 : Nat) "SpillForgeModel" "stands" "[Z") ∈ gw := gw_7 77 rfl rfl
theorem dr_cX17_stand_69 : decode cX17_stand 69 = .ok (.aload_n 1, 1) := by decide +kernel
theorem dr_cX17_stand_70 : decode cX17_stand 70 = .ok (.getfield 79, 3) := by decide +kernel
theorem dr_cX17_stand_73 : decode cX17_stand 73 = .ok (.iconst 1, 1) := by decide +kernel
theorem dr_cX17_stand_74 : decode cX17_stand 74 = .ok (.bastore, 1) := by decide +kernel
theorem dr_cX17_stand_48 : decode cX17_stand 48 = .ok (.aload_n 0, 1) := by decide +kernel
theorem dr_cX17_stand_49 : decode cX17_stand 49 = .ok (.getfield 131, 3) := by decide +kernel
theorem dr_cX17_stand_52 : decode cX17_stand 52 = .ok (.aload_n 1, 1) := by decide +kernel
theorem dr_cX17_stand_53 : decode cX17_stand 53 = .ok (.getfield 73, 3) := by decide +kernel
theorem dr_cX17_stand_56 : decode cX17_stand 56 = .ok (.iconst 1, 1) := by decide +kernel
theorem dr_cX17_stand_57 : decode cX17_stand 57 = .ok (.bastore, 1) := by decide +kernel
theorem dr_cX17_stand_21 : decode cX17_stand 21 = .ok (.aload_n 1, 1) := by decide +kernel
theorem dr_cX17_stand_22 : decode cX17_stand 22 = .ok (.getfield 39, 3) := by decide +kernel
theorem dr_cX17_stand_25 : decode cX17_stand 25 = .ok (.bipush 21, 2) := by decide +kernel
theorem dr_cX17_stand_27 : decode cX17_stand 27 = .ok (.if_icmp .ne 13, 3) := by decide +kernel
theorem dr_cX17_stand_40 : decode cX17_stand 40 = .ok (.return_, 1) := by decide +kernel
theorem dr_cX17_stand_30 : decode cX17_stand 30 = .ok (.aload_n 0, 1) := by decide +kernel
theorem dr_cX17_stand_31 : decode cX17_stand 31 = .ok (.getfield 131, 3) := by decide +kernel
theorem dr_cX17_stand_34 : decode cX17_stand 34 = .ok (.aload_n 1, 1) := by decide +kernel
theorem dr_cX17_stand_35 : decode cX17_stand 35 = .ok (.getfield 45, 3) := by decide +kernel
theorem dr_cX17_stand_38 : decode cX17_stand 38 = .ok (.iconst 1, 1) := by decide +kernel
theorem dr_cX17_stand_39 : decode cX17_stand 39 = .ok (.bastore, 1) := by decide +kernel
theorem dr_cX17_stand_10 : decode cX17_stand 10 = .ok (.aload_n 0, 1) := by decide +kernel
theorem dr_cX17_stand_11 : decode cX17_stand 11 = .ok (.getfield 131, 3) := by decide +kernel
theorem dr_cX17_stand_14 : decode cX17_stand 14 = .ok (.iload_n 3, 1) := by decide +kernel
theorem dr_cX17_stand_15 : decode cX17_stand 15 = .ok (.iconst 1, 1) := by decide +kernel
theorem dr_cX17_stand_16 : decode cX17_stand 16 = .ok (.bastore, 1) := by decide +kernel
abbrev ky_3919_SpillForgeModel_back : gKey := (cX17_back, 4, "SpillForgeModel", none, [], "back", fun _ _ => True)
def pt_3919_SpillForgeModel_back (D : va_G) (I : FieldType → ClassId) (γ el : Nat → Nat → Nat) (P3914 : List Nat) (F3915 : Nat → va_E) (q3916 : Nat) (q3917 : Nat) (p3918 : Int32) : Option Value → va_W → Nat → Nat → Prop := fun r w dc ds => ∃ (F4359 : Nat → va_E), r = none ∧ w = va_pl P3914 F4359 ∧ RS D I P3914 F4359 γ el ∧ rStr γ [] F3915 F4359 ∧ dc ≤ 0 ∧ ds ≤ 0
set_option maxRecDepth 100000 in
set_option maxHeartbeats 4000000 in
theorem ct_3919_SpillForgeModel_back (l : Launch) (hl0 : l.stackTraces = false) (D : va_G) (I : FieldType → ClassId) (γ el : Nat → Nat → Nat) (P3914 : List Nat) (F3915 : Nat → va_E) (q3916 : Nat) (q3917 : Nat) (p3918 : Int32) (hT : RS D I P3914 F3915 γ el) (htq3916 : rKd γ q3916 10) (htq3917 : rKd γ q3917 1) (bp3918 : gB p3918 0 1) : CtA (gV D I) l yX17_back cX17_back 4 none 2 41 0 0 [.ref q3916, .ref q3917, .int p3918] (va_pl P3914 F3915) (pt_3919_SpillForgeModel_back D I γ el P3914 F3915 q3916 q3917 p3918) gNA := by
  refine CtA_of hl0 (by decide) (Nat.le_of_ble_eq_true rfl) ?_
  refine G_aload_n 1 dr_cX17_back_0 rfl ?_
  refine G_iload_n 2 dr_cX17_back_1 rfl ?_
  have hm3920 : q3917 ∈ P3914 := RS_m hT htq3917 (by decide)
  obtain ⟨p3922, p3923, p3924, p3925, p3926, p3927, p3928, he3921, bp3922, bp3923, bp3926, bp3927, bp3928, r3929, r3930, r3931, r3932, r3933⟩ := show rk_1 γ q3917 (F3915 q3917) from RS_o hT htq3917
  have bp3924 := gB_any p3924
  have bp3925 := gB_any p3925
  refine Gw_callS (As := [.ref q3917, .int p3918]) (gV_ok D I) (cp_1778_SpillForgeModel_setOf l hl0 D I P3914 F3915 q3917 p3918 p3922 p3923 p3924 p3925 p3926 p3927 p3928 hm3920 he3921 bp3918 bp3922 bp3923 bp3926 bp3927 bp3928) dr_cX17_back_2 ⟨wr_10_178, wr_1_14, wr_10_180, by decide, rfl, (Nat.le_of_ble_eq_true rfl), (Nat.le_of_ble_eq_true rfl)⟩ wr_10_179 (show 0 + 0 ≤ 0 by first | omega | decide) (show 0 + 0 ≤ 0 by first | omega | decide) (Nat.le_of_ble_eq_true rfl) (fun r3937 w3938 dc3934 ds3935 hp3936 => ?_) (fun _ _ _ _ _ z => z.elim)
  obtain ⟨o3939, rfl, rfl, hdc, hds, bo3939⟩ := hp3936
  change G _ _ _ _ _ _ _ (.int o3939 :: _) _ _ _
  refine G_widen (cs' := 0) (sl' := 0) (by omega) (by omega) ?_
  refine G_istore_n (L' := [(3, .int o3939), (0, .ref q3916), (1, .ref q3917), (2, .int p3918)]) dr_cX17_back_5 (Nat.le_of_ble_eq_true rfl) rfl ?_
  refine G_iload_n 0 dr_cX17_back_6 rfl ?_
  refine G_if_lt 18 dr_cX17_back_7 (by decide +kernel) (fun hc3940 => ?_) (fun hc3940 => ?_)
  · have r3941 : o3939.toInt < 0 := gj_lt hc3940 (show Int32.toInt 0 = 0 by decide)
    have bo3939' : gB o3939 (-1) (-1) := ⟨by omega, by omega⟩
    refine G_iload_n 3 dr_cX17_back_18 rfl ?_
    refine G_if_eq 43 dr_cX17_back_19 (by decide +kernel) (fun hc3942 => ?_) (fun hc3942 => ?_)
    · have r3943 : p3918.toInt = 0 := gj_eq hc3942 (show Int32.toInt 0 = 0 by decide)
      have bp3918' : gB p3918 0 0 := ⟨by omega, by omega⟩
      refine G_aload_n 2 dr_cX17_back_43 rfl ?_
      refine Gw_callV (As := []) (gV_ok D I) (cp_1669_Row_usesA l hl0 D I P3914 F3915 q3917 p3922 p3923 p3924 p3925 p3926 p3927 p3928 hm3920 he3921 bp3922 bp3923 bp3926 bp3927 bp3928) dr_cX17_back_44 ⟨wr_10_192, wr_1_39, wr_10_195, by decide, rfl, (Nat.le_of_ble_eq_true rfl), (Nat.le_of_ble_eq_true rfl)⟩ wr_10_193 wr_10_194 hm3920 he3921 rfl (show 0 + 0 ≤ 0 by first | omega | decide) (show 0 + 0 ≤ 0 by first | omega | decide) (Nat.le_of_ble_eq_true rfl) (fun r3947 w3948 dc3944 ds3945 hp3946 => ?_) (fun _ _ _ _ _ z => z.elim)
      obtain ⟨o3949, rfl, rfl, hdc, hds, bo3949, x3950⟩ := hp3946
      change G _ _ _ _ _ _ _ (.int o3949 :: _) _ _ _
      refine G_widen (cs' := 0) (sl' := 0) (by omega) (by omega) ?_
      refine G_if_eq 61 dr_cX17_back_47 (by decide +kernel) (fun hc3951 => ?_) (fun hc3951 => ?_)
      · have r3952 : o3949.toInt = 0 := gj_eq hc3951 (show Int32.toInt 0 = 0 by decide)
        have bo3949' : gB o3949 0 0 := ⟨by omega, by omega⟩
        refine G_aload_n 2 dr_cX17_back_61 rfl ?_
        refine Gw_callV (As := []) (gV_ok D I) (cp_1693_Row_usesB l hl0 D I P3914 F3915 q3917 p3922 p3923 p3924 p3925 p3926 p3927 p3928 hm3920 he3921 bp3922 bp3923 bp3926 bp3927 bp3928) dr_cX17_back_62 ⟨wr_10_196, wr_1_39, wr_10_199, by decide, rfl, (Nat.le_of_ble_eq_true rfl), (Nat.le_of_ble_eq_true rfl)⟩ wr_10_197 wr_10_198 hm3920 he3921 rfl (show 0 + 0 ≤ 0 by first | omega | decide) (show 0 + 0 ≤ 0 by first | omega | decide) (Nat.le_of_ble_eq_true rfl) (fun r3956 w3957 dc3953 ds3954 hp3955 => ?_) (fun _ _ _ _ _ z => z.elim)
        obtain ⟨o3958, rfl, rfl, hdc, hds, bo3958, x3959⟩ := hp3955
        change G _ _ _ _ _ _ _ (.int o3958 :: _) _ _ _
        refine G_widen (cs' := 0) (sl' := 0) (by omega) (by omega) ?_
        refine G_if_eq 79 dr_cX17_back_65 (by decide +kernel) (fun hc3960 => ?_) (fun hc3960 => ?_)
        · have r3961 : o3958.toInt = 0 := gj_eq hc3960 (show Int32.toInt 0 = 0 by decide)
          have bo3958' : gB o3958 0 0 := ⟨by omega, by omega⟩
          exact G_vretA dr_cX17_back_79 rfl (Nat.le_of_ble_eq_true rfl) (Nat.le_of_ble_eq_true rfl) ⟨F3915, rfl, rfl, hT, (rStr_rf (γ := γ) (W := []) (F := F3915)), (Nat.le_of_ble_eq_true rfl), (Nat.le_of_ble_eq_true rfl)⟩
        · have r3962 : o3958.toInt ≠ 0 := gj_neq hc3960 (show Int32.toInt 0 = 0 by decide)
          have bo3958' : gB o3958 1 1 := ⟨by omega, by omega⟩
          refine G_aload_n 1 dr_cX17_back_68 rfl ?_
          have hm3963 : q3916 ∈ P3914 := RS_m hT htq3916 (by decide)
          obtain ⟨q3965, q3966, p3967, p3968, p3969, p3970, p3971, p3972, p3973, p3974, p3975, p3976, p3977, p3978, p3979, p3980, p3981, he3964, hB4008, ht3982, ht3983, ht3984, ht3985, ht3986, ht3987, ht3988, ht3989, ht3990, ht3991, ht3992, ht3993, ht3994, ht3995, ht3996, ht3997, ht3998, ht3999, ht4000, ht4001, ht4002, ht4003, ht4004, ht4005, hB4009⟩ := show rk_10 γ (F3915 q3916) from RS_o hT htq3916
          refine Gp_get 2 hm3963 he3964 dr_cX17_back_69 (gk_X17 D I) (Nat.le_of_ble_eq_true rfl) wr_7_76 rfl ?_
          refine G_aload_n 2 dr_cX17_back_72 rfl ?_
          refine Gp_get 3 hm3920 he3921 dr_cX17_back_73 (gk_X15 D I) (Nat.le_of_ble_eq_true rfl) wr_9_190 rfl ?_
          have hm4010 : (γ 9 2) ∈ P3914 := RS_m hT ht3986 (by decide)
          obtain ⟨f4012, he4011, wf4012⟩ := show rk_35 I (F3915 (γ 9 2)) from RS_o hT ht3986
          refine Gw_callS (As := [.ref (γ 9 2), .int p3925]) (gV_ok D I) (cp_1853_SpillForgeModel_set l hl0 D I P3914 F3915 (γ 9 2) p3925 f4012 hm4010 he4011 ⟨by omega, by omega⟩ wf4012) dr_cX17_back_76 ⟨wr_10_189, wr_1_14, wr_10_191, by decide, rfl, (Nat.le_of_ble_eq_true rfl), (Nat.le_of_ble_eq_true rfl)⟩ wr_10_190 (show 0 + 0 ≤ 0 by first | omega | decide) (show 0 + 0 ≤ 0 by first | omega | decide) (Nat.le_of_ble_eq_true rfl) (fun r4016 w4017 dc4013 ds4014 hp4015 => ?_) (fun _ _ _ _ _ z => z.elim)
          obtain ⟨F4020, f4018, rfl, rfl, hfr4022, he4023, hdc, hds, x4019⟩ := hp4015
          have he4024 : F4020 q3917 = .inr (20, [.int p3922, .int p3923, .int p3924, .int p3925, .int p3926, .int p3927, .int p3928]) := (hfr4022 q3917 hm3920 (nm_c (rn_oa he3921 he4011) nm_n)).trans he3921
          have he4025 : F4020 q3916 = .inr (22, [.ref (γ 9 0), .ref (γ 9 1), .ref (γ 9 2), .ref (γ 9 3), .ref (γ 9 4), .ref (γ 9 5), .ref (γ 9 6), .ref (γ 9 7), .ref (γ 9 8), .int p3967, .int p3968, .int p3969, .int p3970, .int p3971, .int p3972, .ref (γ 9 15), .ref (γ 9 16), .ref (γ 9 17), .ref (γ 9 18), .ref (γ 9 19), .ref (γ 9 20), .ref (γ 9 21), .ref (γ 9 22), .int p3973, .int p3974, .int p3975, .int p3976, .int p3977, .ref q3965, .ref (γ 9 29), .int p3978, .ref (γ 9 31), .int p3979, .int p3980, .int p3981, .ref q3966]) := (hfr4022 q3916 hm3963 (nm_c (rn_oa he3964 he4011) nm_n)).trans he3964
          have hfr4026 : rFr [(γ 9 2)] P3914 F3915 F4020 := rFr_call (rSub_rf (P := P3914)) (rFr_rf (W := []) (P := P3914) (F := F3915)) hfr4022 (fun b hb hn => ⟨nm_n, (nm_c (fun e => hn (e ▸ List.mem_cons_self)) nm_n)⟩)
          change G _ _ _ _ _ _ _ _ _ _ _
          refine G_widen (cs' := 0) (sl' := 0) (by omega) (by omega) ?_
          have hT4027 : RS D I P3914 F4020 γ el := RS_fr hT hfr4026 ht3986 (by decide) ⟨f4018, he4023, x4019⟩
          have hs4028 : rStr γ [] F3915 F4020 := rStr_fr hT (rStr_rf (γ := γ) (W := []) (F := F3915)) hfr4026 ht3986 (by decide)
          exact G_vretA dr_cX17_back_79 rfl (Nat.le_of_ble_eq_true rfl) (Nat.le_of_ble_eq_true rfl) ⟨F4020, rfl, rfl, hT4027, hs4028, (Nat.le_of_ble_eq_true rfl), (Nat.le_of_ble_eq_true rfl)⟩
      · have r4029 : o3949.toInt ≠ 0 := gj_neq hc3951 (show Int32.toInt 0 = 0 by decide)
        have bo3949' : gB o3949 1 1 := ⟨by omega, by omega⟩
        refine G_aload_n 1 dr_cX17_back_50 rfl ?_
        have hm4030 : q3916 ∈ P3914 := RS_m hT htq3916 (by decide)
        obtain ⟨q4032, q4033, p4034, p4035, p4036, p4037, p4038, p4039, p4040, p4041, p4042, p4043, p4044, p4045, p4046, p4047, p4048, he4031, hB4075, ht4049, ht4050, ht4051, ht4052, ht4053, ht4054, ht4055, ht4056, ht4057, ht4058, ht4059, ht4060, ht4061, ht4062, ht4063, ht4064, ht4065, ht4066, ht4067, ht4068, ht4069, ht4070, ht4071, ht4072, hB4076⟩ := show rk_10 γ (F3915 q3916) from RS_o hT htq3916
        refine Gp_get 2 hm4030 he4031 dr_cX17_back_51 (gk_X17 D I) (Nat.le_of_ble_eq_true rfl) wr_7_76 rfl ?_
        refine G_aload_n 2 dr_cX17_back_54 rfl ?_
        refine Gp_get 2 hm3920 he3921 dr_cX17_back_55 (gk_X15 D I) (Nat.le_of_ble_eq_true rfl) wr_9_186 rfl ?_
        have hm4077 : (γ 9 2) ∈ P3914 := RS_m hT ht4053 (by decide)
        obtain ⟨f4079, he4078, wf4079⟩ := show rk_35 I (F3915 (γ 9 2)) from RS_o hT ht4053
        refine Gw_callS (As := [.ref (γ 9 2), .int p3924]) (gV_ok D I) (cp_1853_SpillForgeModel_set l hl0 D I P3914 F3915 (γ 9 2) p3924 f4079 hm4077 he4078 ⟨by omega, by omega⟩ wf4079) dr_cX17_back_58 ⟨wr_10_189, wr_1_14, wr_10_191, by decide, rfl, (Nat.le_of_ble_eq_true rfl), (Nat.le_of_ble_eq_true rfl)⟩ wr_10_190 (show 0 + 0 ≤ 0 by first | omega | decide) (show 0 + 0 ≤ 0 by first | omega | decide) (Nat.le_of_ble_eq_true rfl) (fun r4083 w4084 dc4080 ds4081 hp4082 => ?_) (fun _ _ _ _ _ z => z.elim)
        obtain ⟨F4087, f4085, rfl, rfl, hfr4089, he4090, hdc, hds, x4086⟩ := hp4082
        have he4091 : F4087 q3917 = .inr (20, [.int p3922, .int p3923, .int p3924, .int p3925, .int p3926, .int p3927, .int p3928]) := (hfr4089 q3917 hm3920 (nm_c (rn_oa he3921 he4078) nm_n)).trans he3921
        have he4092 : F4087 q3916 = .inr (22, [.ref (γ 9 0), .ref (γ 9 1), .ref (γ 9 2), .ref (γ 9 3), .ref (γ 9 4), .ref (γ 9 5), .ref (γ 9 6), .ref (γ 9 7), .ref (γ 9 8), .int p4034, .int p4035, .int p4036, .int p4037, .int p4038, .int p4039, .ref (γ 9 15), .ref (γ 9 16), .ref (γ 9 17), .ref (γ 9 18), .ref (γ 9 19), .ref (γ 9 20), .ref (γ 9 21), .ref (γ 9 22), .int p4040, .int p4041, .int p4042, .int p4043, .int p4044, .ref q4032, .ref (γ 9 29), .int p4045, .ref (γ 9 31), .int p4046, .int p4047, .int p4048, .ref q4033]) := (hfr4089 q3916 hm4030 (nm_c (rn_oa he4031 he4078) nm_n)).trans he4031
        have hfr4093 : rFr [(γ 9 2)] P3914 F3915 F4087 := rFr_call (rSub_rf (P := P3914)) (rFr_rf (W := []) (P := P3914) (F := F3915)) hfr4089 (fun b hb hn => ⟨nm_n, (nm_c (fun e => hn (e ▸ List.mem_cons_self)) nm_n)⟩)
        change G _ _ _ _ _ _ _ _ _ _ _
        refine G_widen (cs' := 0) (sl' := 0) (by omega) (by omega) ?_
        have hT4094 : RS D I P3914 F4087 γ el := RS_fr hT hfr4093 ht4053 (by decide) ⟨f4085, he4090, x4086⟩
        have hs4095 : rStr γ [] F3915 F4087 := rStr_fr hT (rStr_rf (γ := γ) (W := []) (F := F3915)) hfr4093 ht4053 (by decide)
        refine G_aload_n 2 dr_cX17_back_61 rfl ?_
        refine Gw_callV (As := []) (gV_ok D I) (cp_1693_Row_usesB l hl0 D I P3914 F4087 q3917 p3922 p3923 p3924 p3925 p3926 p3927 p3928 hm3920 he4091 bp3922 bp3923 bp3926 bp3927 bp3928) dr_cX17_back_62 ⟨wr_10_196, wr_1_39, wr_10_199, by decide, rfl, (Nat.le_of_ble_eq_true rfl), (Nat.le_of_ble_eq_true rfl)⟩ wr_10_197 wr_10_198 hm3920 he4091 rfl (show 0 + 0 ≤ 0 by first | omega | decide) (show 0 + 0 ≤ 0 by first | omega | decide) (Nat.le_of_ble_eq_true rfl) (fun r4099 w4100 dc4096 ds4097 hp4098 => ?_) (fun _ _ _ _ _ z => z.elim)
        obtain ⟨o4101, rfl, rfl, hdc, hds, bo4101, x4102⟩ := hp4098
        change G _ _ _ _ _ _ _ (.int o4101 :: _) _ _ _
        refine G_widen (cs' := 0) (sl' := 0) (by omega) (by omega) ?_
        refine G_if_eq 79 dr_cX17_back_65 (by decide +kernel) (fun hc4103 => ?_) (fun hc4103 => ?_)
        · have r4104 : o4101.toInt = 0 := gj_eq hc4103 (show Int32.toInt 0 = 0 by decide)
          have bo4101' : gB o4101 0 0 := ⟨by omega, by omega⟩
          exact G_vretA dr_cX17_back_79 rfl (Nat.le_of_ble_eq_true rfl) (Nat.le_of_ble_eq_true rfl) ⟨F4087, rfl, rfl, hT4094, hs4095, (Nat.le_of_ble_eq_true rfl), (Nat.le_of_ble_eq_true rfl)⟩
        · have r4105 : o4101.toInt ≠ 0 := gj_neq hc4103 (show Int32.toInt 0 = 0 by decide)
          have bo4101' : gB o4101 1 1 := ⟨by omega, by omega⟩
          refine G_aload_n 1 dr_cX17_back_68 rfl ?_
          refine Gp_get 2 hm4030 he4092 dr_cX17_back_69 (gk_X17 D I) (Nat.le_of_ble_eq_true rfl) wr_7_76 rfl ?_
          refine G_aload_n 2 dr_cX17_back_72 rfl ?_
          refine Gp_get 3 hm3920 he4091 dr_cX17_back_73 (gk_X15 D I) (Nat.le_of_ble_eq_true rfl) wr_9_190 rfl ?_
          refine Gw_callS (As := [.ref (γ 9 2), .int p3925]) (gV_ok D I) (cp_1853_SpillForgeModel_set l hl0 D I P3914 F4087 (γ 9 2) p3925 f4085 hm4077 he4090 ⟨by omega, by omega⟩ x4086) dr_cX17_back_76 ⟨wr_10_189, wr_1_14, wr_10_191, by decide, rfl, (Nat.le_of_ble_eq_true rfl), (Nat.le_of_ble_eq_true rfl)⟩ wr_10_190 (show 0 + 0 ≤ 0 by first | omega | decide) (show 0 + 0 ≤ 0 by first | omega | decide) (Nat.le_of_ble_eq_true rfl) (fun r4109 w4110 dc4106 ds4107 hp4108 => ?_) (fun _ _ _ _ _ z => z.elim)
          obtain ⟨F4113, f4111, rfl, rfl, hfr4115, he4116, hdc, hds, x4112⟩ := hp4108
          have he4117 : F4113 q3917 = .inr (20, [.int p3922, .int p3923, .int p3924, .int p3925, .int p3926, .int p3927, .int p3928]) := (hfr4115 q3917 hm3920 (nm_c (rn_oa he4091 he4090) nm_n)).trans he4091
          have he4118 : F4113 q3916 = .inr (22, [.ref (γ 9 0), .ref (γ 9 1), .ref (γ 9 2), .ref (γ 9 3), .ref (γ 9 4), .ref (γ 9 5), .ref (γ 9 6), .ref (γ 9 7), .ref (γ 9 8), .int p4034, .int p4035, .int p4036, .int p4037, .int p4038, .int p4039, .ref (γ 9 15), .ref (γ 9 16), .ref (γ 9 17), .ref (γ 9 18), .ref (γ 9 19), .ref (γ 9 20), .ref (γ 9 21), .ref (γ 9 22), .int p4040, .int p4041, .int p4042, .int p4043, .int p4044, .ref q4032, .ref (γ 9 29), .int p4045, .ref (γ 9 31), .int p4046, .int p4047, .int p4048, .ref q4033]) := (hfr4115 q3916 hm4030 (nm_c (rn_oa he4092 he4090) nm_n)).trans he4092
          have hfr4119 : rFr [(γ 9 2)] P3914 F4087 F4113 := rFr_call (rSub_rf (P := P3914)) (rFr_rf (W := []) (P := P3914) (F := F4087)) hfr4115 (fun b hb hn => ⟨nm_n, (nm_c (fun e => hn (e ▸ List.mem_cons_self)) nm_n)⟩)
          change G _ _ _ _ _ _ _ _ _ _ _
          refine G_widen (cs' := 0) (sl' := 0) (by omega) (by omega) ?_
          have hT4120 : RS D I P3914 F4113 γ el := RS_fr hT4094 hfr4119 ht4053 (by decide) ⟨f4111, he4116, x4112⟩
          have hs4121 : rStr γ [] F3915 F4113 := rStr_fr hT4094 hs4095 hfr4119 ht4053 (by decide)
          exact G_vretA dr_cX17_back_79 rfl (Nat.le_of_ble_eq_true rfl) (Nat.le_of_ble_eq_true rfl) ⟨F4113, rfl, rfl, hT4120, hs4121, (Nat.le_of_ble_eq_true rfl), (Nat.le_of_ble_eq_true rfl)⟩
    · have r4122 : p3918.toInt ≠ 0 := gj_neq hc3942 (show Int32.toInt 0 = 0 by decide)
      have bp3918' : gB p3918 1 1 := ⟨by omega, by omega⟩
      refine G_aload_n 2 dr_cX17_back_22 rfl ?_
      refine Gp_get 0 hm3920 he3921 dr_cX17_back_23 (gk_X15 D I) (Nat.le_of_ble_eq_true rfl) wr_9_177 rfl ?_
      refine G_bipush 21 dr_cX17_back_26 (by decide +kernel) ?_
      refine G_icmp_ne 42 dr_cX17_back_28 (by decide +kernel) (fun hc4123 => ?_) (fun hc4123 => ?_)
      · have r4124 : p3922.toInt ≠ 21 := gj_neq hc4123 (show Int32.toInt 21 = 21 by decide)
        exact G_vretA dr_cX17_back_42 rfl (Nat.le_of_ble_eq_true rfl) (Nat.le_of_ble_eq_true rfl) ⟨F3915, rfl, rfl, hT, (rStr_rf (γ := γ) (W := []) (F := F3915)), (Nat.le_of_ble_eq_true rfl), (Nat.le_of_ble_eq_true rfl)⟩
      · have r4125 : p3922.toInt = 21 := gj_eq hc4123 (show Int32.toInt 21 = 21 by decide)
        have bp3922' : gB p3922 21 21 := ⟨by omega, by omega⟩
        refine G_aload_n 1 dr_cX17_back_31 rfl ?_
        have hm4126 : q3916 ∈ P3914 := RS_m hT htq3916 (by decide)
        obtain ⟨q4128, q4129, p4130, p4131, p4132, p4133, p4134, p4135, p4136, p4137, p4138, p4139, p4140, p4141, p4142, p4143, p4144, he4127, hB4171, ht4145, ht4146, ht4147, ht4148, ht4149, ht4150, ht4151, ht4152, ht4153, ht4154, ht4155, ht4156, ht4157, ht4158, ht4159, ht4160, ht4161, ht4162, ht4163, ht4164, ht4165, ht4166, ht4167, ht4168, hB4172⟩ := show rk_10 γ (F3915 q3916) from RS_o hT htq3916
        refine Gp_get 2 hm4126 he4127 dr_cX17_back_32 (gk_X17 D I) (Nat.le_of_ble_eq_true rfl) wr_7_76 rfl ?_
        refine G_aload_n 2 dr_cX17_back_35 rfl ?_
        refine Gp_get 4 hm3920 he3921 dr_cX17_back_36 (gk_X15 D I) (Nat.le_of_ble_eq_true rfl) wr_9_193 rfl ?_
        have hm4173 : (γ 9 2) ∈ P3914 := RS_m hT ht4149 (by decide)
        obtain ⟨f4175, he4174, wf4175⟩ := show rk_35 I (F3915 (γ 9 2)) from RS_o hT ht4149
        refine Gw_callS (As := [.ref (γ 9 2), .int p3926]) (gV_ok D I) (cp_1853_SpillForgeModel_set l hl0 D I P3914 F3915 (γ 9 2) p3926 f4175 hm4173 he4174 bp3926 wf4175) dr_cX17_back_39 ⟨wr_10_189, wr_1_14, wr_10_191, by decide, rfl, (Nat.le_of_ble_eq_true rfl), (Nat.le_of_ble_eq_true rfl)⟩ wr_10_190 (show 0 + 0 ≤ 0 by first | omega | decide) (show 0 + 0 ≤ 0 by first | omega | decide) (Nat.le_of_ble_eq_true rfl) (fun r4179 w4180 dc4176 ds4177 hp4178 => ?_) (fun _ _ _ _ _ z => z.elim)
        obtain ⟨F4183, f4181, rfl, rfl, hfr4185, he4186, hdc, hds, x4182⟩ := hp4178
        have he4187 : F4183 q3917 = .inr (20, [.int p3922, .int p3923, .int p3924, .int p3925, .int p3926, .int p3927, .int p3928]) := (hfr4185 q3917 hm3920 (nm_c (rn_oa he3921 he4174) nm_n)).trans he3921
        have he4188 : F4183 q3916 = .inr (22, [.ref (γ 9 0), .ref (γ 9 1), .ref (γ 9 2), .ref (γ 9 3), .ref (γ 9 4), .ref (γ 9 5), .ref (γ 9 6), .ref (γ 9 7), .ref (γ 9 8), .int p4130, .int p4131, .int p4132, .int p4133, .int p4134, .int p4135, .ref (γ 9 15), .ref (γ 9 16), .ref (γ 9 17), .ref (γ 9 18), .ref (γ 9 19), .ref (γ 9 20), .ref (γ 9 21), .ref (γ 9 22), .int p4136, .int p4137, .int p4138, .int p4139, .int p4140, .ref q4128, .ref (γ 9 29), .int p4141, .ref (γ 9 31), .int p4142, .int p4143, .int p4144, .ref q4129]) := (hfr4185 q3916 hm4126 (nm_c (rn_oa he4127 he4174) nm_n)).trans he4127
        have hfr4189 : rFr [(γ 9 2)] P3914 F3915 F4183 := rFr_call (rSub_rf (P := P3914)) (rFr_rf (W := []) (P := P3914) (F := F3915)) hfr4185 (fun b hb hn => ⟨nm_n, (nm_c (fun e => hn (e ▸ List.mem_cons_self)) nm_n)⟩)
        change G _ _ _ _ _ _ _ _ _ _ _
        refine G_widen (cs' := 0) (sl' := 0) (by omega) (by omega) ?_
        have hT4190 : RS D I P3914 F4183 γ el := RS_fr hT hfr4189 ht4149 (by decide) ⟨f4181, he4186, x4182⟩
        have hs4191 : rStr γ [] F3915 F4183 := rStr_fr hT (rStr_rf (γ := γ) (W := []) (F := F3915)) hfr4189 ht4149 (by decide)
        exact G_vretA dr_cX17_back_42 rfl (Nat.le_of_ble_eq_true rfl) (Nat.le_of_ble_eq_true rfl) ⟨F4183, rfl, rfl, hT4190, hs4191, (Nat.le_of_ble_eq_true rfl), (Nat.le_of_ble_eq_true rfl)⟩
  · have r4192 : 0 ≤ o3939.toInt := gj_nlt hc3940 (show Int32.toInt 0 = 0 by decide)
    have bo3939' : gB o3939 0 1999 := ⟨by omega, by omega⟩
    refine G_aload_n 1 dr_cX17_back_10 rfl ?_
    have hm4193 : q3916 ∈ P3914 := RS_m hT htq3916 (by decide)
    obtain ⟨q4195, q4196, p4197, p4198, p4199, p4200, p4201, p4202, p4203, p4204, p4205, p4206, p4207, p4208, p4209, p4210, p4211, he4194, hB4238, ht4212, ht4213, ht4214, ht4215, ht4216, ht4217, ht4218, ht4219, ht4220, ht4221, ht4222, ht4223, ht4224, ht4225, ht4226, ht4227, ht4228, ht4229, ht4230, ht4231, ht4232, ht4233, ht4234, ht4235, hB4239⟩ := show rk_10 γ (F3915 q3916) from RS_o hT htq3916
    refine Gp_get 2 hm4193 he4194 dr_cX17_back_11 (gk_X17 D I) (Nat.le_of_ble_eq_true rfl) wr_7_76 rfl ?_
    refine G_iload_n 0 dr_cX17_back_14 rfl ?_
    have hm4240 : (γ 9 2) ∈ P3914 := RS_m hT ht4216 (by decide)
    obtain ⟨f4242, he4241, wf4242⟩ := show rk_35 I (F3915 (γ 9 2)) from RS_o hT ht4216
    refine Gw_callS (As := [.ref (γ 9 2), .int o3939]) (gV_ok D I) (cp_1873_SpillForgeModel_clear l hl0 D I P3914 F3915 (γ 9 2) o3939 f4242 hm4240 he4241 bo3939' wf4242) dr_cX17_back_15 ⟨wr_10_185, wr_1_14, wr_10_187, by decide, rfl, (Nat.le_of_ble_eq_true rfl), (Nat.le_of_ble_eq_true rfl)⟩ wr_10_186 (show 0 + 0 ≤ 0 by first | omega | decide) (show 0 + 0 ≤ 0 by first | omega | decide) (Nat.le_of_ble_eq_true rfl) (fun r4246 w4247 dc4243 ds4244 hp4245 => ?_) (fun _ _ _ _ _ z => z.elim)
    obtain ⟨F4250, f4248, rfl, rfl, hfr4252, he4253, hdc, hds, x4249⟩ := hp4245
    have he4254 : F4250 q3917 = .inr (20, [.int p3922, .int p3923, .int p3924, .int p3925, .int p3926, .int p3927, .int p3928]) := (hfr4252 q3917 hm3920 (nm_c (rn_oa he3921 he4241) nm_n)).trans he3921
    have he4255 : F4250 q3916 = .inr (22, [.ref (γ 9 0), .ref (γ 9 1), .ref (γ 9 2), .ref (γ 9 3), .ref (γ 9 4), .ref (γ 9 5), .ref (γ 9 6), .ref (γ 9 7), .ref (γ 9 8), .int p4197, .int p4198, .int p4199, .int p4200, .int p4201, .int p4202, .ref (γ 9 15), .ref (γ 9 16), .ref (γ 9 17), .ref (γ 9 18), .ref (γ 9 19), .ref (γ 9 20), .ref (γ 9 21), .ref (γ 9 22), .int p4203, .int p4204, .int p4205, .int p4206, .int p4207, .ref q4195, .ref (γ 9 29), .int p4208, .ref (γ 9 31), .int p4209, .int p4210, .int p4211, .ref q4196]) := (hfr4252 q3916 hm4193 (nm_c (rn_oa he4194 he4241) nm_n)).trans he4194
    have hfr4256 : rFr [(γ 9 2)] P3914 F3915 F4250 := rFr_call (rSub_rf (P := P3914)) (rFr_rf (W := []) (P := P3914) (F := F3915)) hfr4252 (fun b hb hn => ⟨nm_n, (nm_c (fun e => hn (e ▸ List.mem_cons_self)) nm_n)⟩)
    change G _ _ _ _ _ _ _ _ _ _ _
    refine G_widen (cs' := 0) (sl' := 0) (by omega) (by omega) ?_
    have hT4257 : RS D I P3914 F4250 γ el := RS_fr hT hfr4256 ht4216 (by decide) ⟨f4248, he4253, x4249⟩
    have hs4258 : rStr γ [] F3915 F4250 := rStr_fr hT (rStr_rf (γ := γ) (W := []) (F := F3915)) hfr4256 ht4216 (by decide)
    refine G_iload_n 3 dr_cX17_back_18 rfl ?_
    refine G_if_eq 43 dr_cX17_back_19 (by decide +kernel) (fun hc4259 => ?_) (fun hc4259 => ?_)
    · have r4260 : p3918.toInt = 0 := gj_eq hc4259 (show Int32.toInt 0 = 0 by decide)
      have bp3918' : gB p3918 0 0 := ⟨by omega, by omega⟩
      refine G_aload_n 2 dr_cX17_back_43 rfl ?_
      refine Gw_callV (As := []) (gV_ok D I) (cp_1669_Row_usesA l hl0 D I P3914 F4250 q3917 p3922 p3923 p3924 p3925 p3926 p3927 p3928 hm3920 he4254 bp3922 bp3923 bp3926 bp3927 bp3928) dr_cX17_back_44 ⟨wr_10_192, wr_1_39, wr_10_195, by decide, rfl, (Nat.le_of_ble_eq_true rfl), (Nat.le_of_ble_eq_true rfl)⟩ wr_10_193 wr_10_194 hm3920 he4254 rfl (show 0 + 0 ≤ 0 by first | omega | decide) (show 0 + 0 ≤ 0 by first | omega | decide) (Nat.le_of_ble_eq_true rfl) (fun r4264 w4265 dc4261 ds4262 hp4263 => ?_) (fun _ _ _ _ _ z => z.elim)
      obtain ⟨o4266, rfl, rfl, hdc, hds, bo4266, x4267⟩ := hp4263
      change G _ _ _ _ _ _ _ (.int o4266 :: _) _ _ _
      refine G_widen (cs' := 0) (sl' := 0) (by omega) (by omega) ?_
      refine G_if_eq 61 dr_cX17_back_47 (by decide +kernel) (fun hc4268 => ?_) (fun hc4268 => ?_)
      · have r4269 : o4266.toInt = 0 := gj_eq hc4268 (show Int32.toInt 0 = 0 by decide)
        have bo4266' : gB o4266 0 0 := ⟨by omega, by omega⟩
        refine G_aload_n 2 dr_cX17_back_61 rfl ?_
        refine Gw_callV (As := []) (gV_ok D I) (cp_1693_Row_usesB l hl0 D I P3914 F4250 q3917 p3922 p3923 p3924 p3925 p3926 p3927 p3928 hm3920 he4254 bp3922 bp3923 bp3926 bp3927 bp3928) dr_cX17_back_62 ⟨wr_10_196, wr_1_39, wr_10_199, by decide, rfl, (Nat.le_of_ble_eq_true rfl), (Nat.le_of_ble_eq_true rfl)⟩ wr_10_197 wr_10_198 hm3920 he4254 rfl (show 0 + 0 ≤ 0 by first | omega | decide) (show 0 + 0 ≤ 0 by first | omega | decide) (Nat.le_of_ble_eq_true rfl) (fun r4273 w4274 dc4270 ds4271 hp4272 => ?_) (fun _ _ _ _ _ z => z.elim)
        obtain ⟨o4275, rfl, rfl, hdc, hds, bo4275, x4276⟩ := hp4272
        change G _ _ _ _ _ _ _ (.int o4275 :: _) _ _ _
        refine G_widen (cs' := 0) (sl' := 0) (by omega) (by omega) ?_
        refine G_if_eq 79 dr_cX17_back_65 (by decide +kernel) (fun hc4277 => ?_) (fun hc4277 => ?_)
        · have r4278 : o4275.toInt = 0 := gj_eq hc4277 (show Int32.toInt 0 = 0 by decide)
          have bo4275' : gB o4275 0 0 := ⟨by omega, by omega⟩
          exact G_vretA dr_cX17_back_79 rfl (Nat.le_of_ble_eq_true rfl) (Nat.le_of_ble_eq_true rfl) ⟨F4250, rfl, rfl, hT4257, hs4258, (Nat.le_of_ble_eq_true rfl), (Nat.le_of_ble_eq_true rfl)⟩
        · have r4279 : o4275.toInt ≠ 0 := gj_neq hc4277 (show Int32.toInt 0 = 0 by decide)
          have bo4275' : gB o4275 1 1 := ⟨by omega, by omega⟩
          refine G_aload_n 1 dr_cX17_back_68 rfl ?_
          refine Gp_get 2 hm4193 he4255 dr_cX17_back_69 (gk_X17 D I) (Nat.le_of_ble_eq_true rfl) wr_7_76 rfl ?_
          refine G_aload_n 2 dr_cX17_back_72 rfl ?_
          refine Gp_get 3 hm3920 he4254 dr_cX17_back_73 (gk_X15 D I) (Nat.le_of_ble_eq_true rfl) wr_9_190 rfl ?_
          refine Gw_callS (As := [.ref (γ 9 2), .int p3925]) (gV_ok D I) (cp_1853_SpillForgeModel_set l hl0 D I P3914 F4250 (γ 9 2) p3925 f4248 hm4240 he4253 ⟨by omega, by omega⟩ x4249) dr_cX17_back_76 ⟨wr_10_189, wr_1_14, wr_10_191, by decide, rfl, (Nat.le_of_ble_eq_true rfl), (Nat.le_of_ble_eq_true rfl)⟩ wr_10_190 (show 0 + 0 ≤ 0 by first | omega | decide) (show 0 + 0 ≤ 0 by first | omega | decide) (Nat.le_of_ble_eq_true rfl) (fun r4283 w4284 dc4280 ds4281 hp4282 => ?_) (fun _ _ _ _ _ z => z.elim)
          obtain ⟨F4287, f4285, rfl, rfl, hfr4289, he4290, hdc, hds, x4286⟩ := hp4282
          have he4291 : F4287 q3917 = .inr (20, [.int p3922, .int p3923, .int p3924, .int p3925, .int p3926, .int p3927, .int p3928]) := (hfr4289 q3917 hm3920 (nm_c (rn_oa he4254 he4253) nm_n)).trans he4254
          have he4292 : F4287 q3916 = .inr (22, [.ref (γ 9 0), .ref (γ 9 1), .ref (γ 9 2), .ref (γ 9 3), .ref (γ 9 4), .ref (γ 9 5), .ref (γ 9 6), .ref (γ 9 7), .ref (γ 9 8), .int p4197, .int p4198, .int p4199, .int p4200, .int p4201, .int p4202, .ref (γ 9 15), .ref (γ 9 16), .ref (γ 9 17), .ref (γ 9 18), .ref (γ 9 19), .ref (γ 9 20), .ref (γ 9 21), .ref (γ 9 22), .int p4203, .int p4204, .int p4205, .int p4206, .int p4207, .ref q4195, .ref (γ 9 29), .int p4208, .ref (γ 9 31), .int p4209, .int p4210, .int p4211, .ref q4196]) := (hfr4289 q3916 hm4193 (nm_c (rn_oa he4255 he4253) nm_n)).trans he4255
          have hfr4293 : rFr [(γ 9 2)] P3914 F4250 F4287 := rFr_call (rSub_rf (P := P3914)) (rFr_rf (W := []) (P := P3914) (F := F4250)) hfr4289 (fun b hb hn => ⟨nm_n, (nm_c (fun e => hn (e ▸ List.mem_cons_self)) nm_n)⟩)
          change G _ _ _ _ _ _ _ _ _ _ _
          refine G_widen (cs' := 0) (sl' := 0) (by omega) (by omega) ?_
          have hT4294 : RS D I P3914 F4287 γ el := RS_fr hT4257 hfr4293 ht4216 (by decide) ⟨f4285, he4290, x4286⟩
          have hs4295 : rStr γ [] F3915 F4287 := rStr_fr hT4257 hs4258 hfr4293 ht4216 (by decide)
          exact G_vretA dr_cX17_back_79 rfl (Nat.le_of_ble_eq_true rfl) (Nat.le_of_ble_eq_true rfl) ⟨F4287, rfl, rfl, hT4294, hs4295, (Nat.le_of_ble_eq_true rfl), (Nat.le_of_ble_eq_true rfl)⟩
      · have r4296 : o4266.toInt ≠ 0 := gj_neq hc4268 (show Int32.toInt 0 = 0 by decide)
        have bo4266' : gB o4266 1 1 := ⟨by omega, by omega⟩
        refine G_aload_n 1 dr_cX17_back_50 rfl ?_
        refine Gp_get 2 hm4193 he4255 dr_cX17_back_51 (gk_X17 D I) (Nat.le_of_ble_eq_true rfl) wr_7_76 rfl ?_
        refine G_aload_n 2 dr_cX17_back_54 rfl ?_
        refine Gp_get 2 hm3920 he4254 dr_cX17_back_55 (gk_X15 D I) (Nat.le_of_ble_eq_true rfl) wr_9_186 rfl ?_
        refine Gw_callS (As := [.ref (γ 9 2), .int p3924]) (gV_ok D I) (cp_1853_SpillForgeModel_set l hl0 D I P3914 F4250 (γ 9 2) p3924 f4248 hm4240 he4253 ⟨by omega, by omega⟩ x4249) dr_cX17_back_58 ⟨wr_10_189, wr_1_14, wr_10_191, by decide, rfl, (Nat.le_of_ble_eq_true rfl), (Nat.le_of_ble_eq_true rfl)⟩ wr_10_190 (show 0 + 0 ≤ 0 by first | omega | decide) (show 0 + 0 ≤ 0 by first | omega | decide) (Nat.le_of_ble_eq_true rfl) (fun r4300 w4301 dc4297 ds4298 hp4299 => ?_) (fun _ _ _ _ _ z => z.elim)
        obtain ⟨F4304, f4302, rfl, rfl, hfr4306, he4307, hdc, hds, x4303⟩ := hp4299
        have he4308 : F4304 q3917 = .inr (20, [.int p3922, .int p3923, .int p3924, .int p3925, .int p3926, .int p3927, .int p3928]) := (hfr4306 q3917 hm3920 (nm_c (rn_oa he4254 he4253) nm_n)).trans he4254
        have he4309 : F4304 q3916 = .inr (22, [.ref (γ 9 0), .ref (γ 9 1), .ref (γ 9 2), .ref (γ 9 3), .ref (γ 9 4), .ref (γ 9 5), .ref (γ 9 6), .ref (γ 9 7), .ref (γ 9 8), .int p4197, .int p4198, .int p4199, .int p4200, .int p4201, .int p4202, .ref (γ 9 15), .ref (γ 9 16), .ref (γ 9 17), .ref (γ 9 18), .ref (γ 9 19), .ref (γ 9 20), .ref (γ 9 21), .ref (γ 9 22), .int p4203, .int p4204, .int p4205, .int p4206, .int p4207, .ref q4195, .ref (γ 9 29), .int p4208, .ref (γ 9 31), .int p4209, .int p4210, .int p4211, .ref q4196]) := (hfr4306 q3916 hm4193 (nm_c (rn_oa he4255 he4253) nm_n)).trans he4255
        have hfr4310 : rFr [(γ 9 2)] P3914 F4250 F4304 := rFr_call (rSub_rf (P := P3914)) (rFr_rf (W := []) (P := P3914) (F := F4250)) hfr4306 (fun b hb hn => ⟨nm_n, (nm_c (fun e => hn (e ▸ List.mem_cons_self)) nm_n)⟩)
        change G _ _ _ _ _ _ _ _ _ _ _
        refine G_widen (cs' := 0) (sl' := 0) (by omega) (by omega) ?_
        have hT4311 : RS D I P3914 F4304 γ el := RS_fr hT4257 hfr4310 ht4216 (by decide) ⟨f4302, he4307, x4303⟩
        have hs4312 : rStr γ [] F3915 F4304 := rStr_fr hT4257 hs4258 hfr4310 ht4216 (by decide)
        refine G_aload_n 2 dr_cX17_back_61 rfl ?_
        refine Gw_callV (As := []) (gV_ok D I) (cp_1693_Row_usesB l hl0 D I P3914 F4304 q3917 p3922 p3923 p3924 p3925 p3926 p3927 p3928 hm3920 he4308 bp3922 bp3923 bp3926 bp3927 bp3928) dr_cX17_back_62 ⟨wr_10_196, wr_1_39, wr_10_199, by decide, rfl, (Nat.le_of_ble_eq_true rfl), (Nat.le_of_ble_eq_true rfl)⟩ wr_10_197 wr_10_198 hm3920 he4308 rfl (show 0 + 0 ≤ 0 by first | omega | decide) (show 0 + 0 ≤ 0 by first | omega | decide) (Nat.le_of_ble_eq_true rfl) (fun r4316 w4317 dc4313 ds4314 hp4315 => ?_) (fun _ _ _ _ _ z => z.elim)
        obtain ⟨o4318, rfl, rfl, hdc, hds, bo4318, x4319⟩ := hp4315
        change G _ _ _ _ _ _ _ (.int o4318 :: _) _ _ _
        refine G_widen (cs' := 0) (sl' := 0) (by omega) (by omega) ?_
        refine G_if_eq 79 dr_cX17_back_65 (by decide +kernel) (fun hc4320 => ?_) (fun hc4320 => ?_)
        · have r4321 : o4318.toInt = 0 := gj_eq hc4320 (show Int32.toInt 0 = 0 by decide)
          have bo4318' : gB o4318 0 0 := ⟨by omega, by omega⟩
          exact G_vretA dr_cX17_back_79 rfl (Nat.le_of_ble_eq_true rfl) (Nat.le_of_ble_eq_true rfl) ⟨F4304, rfl, rfl, hT4311, hs4312, (Nat.le_of_ble_eq_true rfl), (Nat.le_of_ble_eq_true rfl)⟩
        · have r4322 : o4318.toInt ≠ 0 := gj_neq hc4320 (show Int32.toInt 0 = 0 by decide)
          have bo4318' : gB o4318 1 1 := ⟨by omega, by omega⟩
          refine G_aload_n 1 dr_cX17_back_68 rfl ?_
          refine Gp_get 2 hm4193 he4309 dr_cX17_back_69 (gk_X17 D I) (Nat.le_of_ble_eq_true rfl) wr_7_76 rfl ?_
          refine G_aload_n 2 dr_cX17_back_72 rfl ?_
          refine Gp_get 3 hm3920 he4308 dr_cX17_back_73 (gk_X15 D I) (Nat.le_of_ble_eq_true rfl) wr_9_190 rfl ?_
          refine Gw_callS (As := [.ref (γ 9 2), .int p3925]) (gV_ok D I) (cp_1853_SpillForgeModel_set l hl0 D I P3914 F4304 (γ 9 2) p3925 f4302 hm4240 he4307 ⟨by omega, by omega⟩ x4303) dr_cX17_back_76 ⟨wr_10_189, wr_1_14, wr_10_191, by decide, rfl, (Nat.le_of_ble_eq_true rfl), (Nat.le_of_ble_eq_true rfl)⟩ wr_10_190 (show 0 + 0 ≤ 0 by first | omega | decide) (show 0 + 0 ≤ 0 by first | omega | decide) (Nat.le_of_ble_eq_true rfl) (fun r4326 w4327 dc4323 ds4324 hp4325 => ?_) (fun _ _ _ _ _ z => z.elim)
          obtain ⟨F4330, f4328, rfl, rfl, hfr4332, he4333, hdc, hds, x4329⟩ := hp4325
          have he4334 : F4330 q3917 = .inr (20, [.int p3922, .int p3923, .int p3924, .int p3925, .int p3926, .int p3927, .int p3928]) := (hfr4332 q3917 hm3920 (nm_c (rn_oa he4308 he4307) nm_n)).trans he4308
          have he4335 : F4330 q3916 = .inr (22, [.ref (γ 9 0), .ref (γ 9 1), .ref (γ 9 2), .ref (γ 9 3), .ref (γ 9 4), .ref (γ 9 5), .ref (γ 9 6), .ref (γ 9 7), .ref (γ 9 8), .int p4197, .int p4198, .int p4199, .int p4200, .int p4201, .int p4202, .ref (γ 9 15), .ref (γ 9 16), .ref (γ 9 17), .ref (γ 9 18), .ref (γ 9 19), .ref (γ 9 20), .ref (γ 9 21), .ref (γ 9 22), .int p4203, .int p4204, .int p4205, .int p4206, .int p4207, .ref q4195, .ref (γ 9 29), .int p4208, .ref (γ 9 31), .int p4209, .int p4210, .int p4211, .ref q4196]) := (hfr4332 q3916 hm4193 (nm_c (rn_oa he4309 he4307) nm_n)).trans he4309
          have hfr4336 : rFr [(γ 9 2)] P3914 F4304 F4330 := rFr_call (rSub_rf (P := P3914)) (rFr_rf (W := []) (P := P3914) (F := F4304)) hfr4332 (fun b hb hn => ⟨nm_n, (nm_c (fun e => hn (e ▸ List.mem_cons_self)) nm_n)⟩)
          change G _ _ _ _ _ _ _ _ _ _ _
          refine G_widen (cs' := 0) (sl' := 0) (by omega) (by omega) ?_
          have hT4337 : RS D I P3914 F4330 γ el := RS_fr hT4311 hfr4336 ht4216 (by decide) ⟨f4328, he4333, x4329⟩
          have hs4338 : rStr γ [] F3915 F4330 := rStr_fr hT4311 hs4312 hfr4336 ht4216 (by decide)
          exact G_vretA dr_cX17_back_79 rfl (Nat.le_of_ble_eq_true rfl) (Nat.le_of_ble_eq_true rfl) ⟨F4330, rfl, rfl, hT4337, hs4338, (Nat.le_of_ble_eq_true rfl), (Nat.le_of_ble_eq_true rfl)⟩
    · have r4339 : p3918.toInt ≠ 0 := gj_neq hc4259 (show Int32.toInt 0 = 0 by decide)
      have bp3918' : gB p3918 1 1 := ⟨by omega, by omega⟩
      refine G_aload_n 2 dr_cX17_back_22 rfl ?_
      refine Gp_get 0 hm3920 he4254 dr_cX17_back_23 (gk_X15 D I) (Nat.le_of_ble_eq_true rfl) wr_9_177 rfl ?_
      refine G_bipush 21 dr_cX17_back_26 (by decide +kernel) ?_
      refine G_icmp_ne 42 dr_cX17_back_28 (by decide +kernel) (fun hc4340 => ?_) (fun hc4340 => ?_)
      · have r4341 : p3922.toInt ≠ 21 := gj_neq hc4340 (show Int32.toInt 21 = 21 by decide)
        exact G_vretA dr_cX17_back_42 rfl (Nat.le_of_ble_eq_true rfl) (Nat.le_of_ble_eq_true rfl) ⟨F4250, rfl, rfl, hT4257, hs4258, (Nat.le_of_ble_eq_true rfl), (Nat.le_of_ble_eq_true rfl)⟩
      · have r4342 : p3922.toInt = 21 := gj_eq hc4340 (show Int32.toInt 21 = 21 by decide)
        have bp3922' : gB p3922 21 21 := ⟨by omega, by omega⟩
        refine G_aload_n 1 dr_cX17_back_31 rfl ?_
        refine Gp_get 2 hm4193 he4255 dr_cX17_back_32 (gk_X17 D I) (Nat.le_of_ble_eq_true rfl) wr_7_76 rfl ?_
        refine G_aload_n 2 dr_cX17_back_35 rfl ?_
        refine Gp_get 4 hm3920 he4254 dr_cX17_back_36 (gk_X15 D I) (Nat.le_of_ble_eq_true rfl) wr_9_193 rfl ?_
        refine Gw_callS (As := [.ref (γ 9 2), .int p3926]) (gV_ok D I) (cp_1853_SpillForgeModel_set l hl0 D I P3914 F4250 (γ 9 2) p3926 f4248 hm4240 he4253 bp3926 x4249) dr_cX17_back_39 ⟨wr_10_189, wr_1_14, wr_10_191, by decide, rfl, (Nat.le_of_ble_eq_true rfl), (Nat.le_of_ble_eq_true rfl)⟩ wr_10_190 (show 0 + 0 ≤ 0 by first | omega | decide) (show 0 + 0 ≤ 0 by first | omega | decide) (Nat.le_of_ble_eq_true rfl) (fun r4346 w4347 dc4343 ds4344 hp4345 => ?_) (fun _ _ _ _ _ z => z.elim)
        obtain ⟨F4350, f4348, rfl, rfl, hfr4352, he4353, hdc, hds, x4349⟩ := hp4345
        have he4354 : F4350 q3917 = .inr (20, [.int p3922, .int p3923, .int p3924, .int p3925, .int p3926, .int p3927, .int p3928]) := (hfr4352 q3917 hm3920 (nm_c (rn_oa he4254 he4253) nm_n)).trans he4254
        have he4355 : F4350 q3916 = .inr (22, [.ref (γ 9 0), .ref (γ 9 1), .ref (γ 9 2), .ref (γ 9 3), .ref (γ 9 4), .ref (γ 9 5), .ref (γ 9 6), .ref (γ 9 7), .ref (γ 9 8), .int p4197, .int p4198, .int p4199, .int p4200, .int p4201, .int p4202, .ref (γ 9 15), .ref (γ 9 16), .ref (γ 9 17), .ref (γ 9 18), .ref (γ 9 19), .ref (γ 9 20), .ref (γ 9 21), .ref (γ 9 22), .int p4203, .int p4204, .int p4205, .int p4206, .int p4207, .ref q4195, .ref (γ 9 29), .int p4208, .ref (γ 9 31), .int p4209, .int p4210, .int p4211, .ref q4196]) := (hfr4352 q3916 hm4193 (nm_c (rn_oa he4255 he4253) nm_n)).trans he4255
        have hfr4356 : rFr [(γ 9 2)] P3914 F4250 F4350 := rFr_call (rSub_rf (P := P3914)) (rFr_rf (W := []) (P := P3914) (F := F4250)) hfr4352 (fun b hb hn => ⟨nm_n, (nm_c (fun e => hn (e ▸ List.mem_cons_self)) nm_n)⟩)
        change G _ _ _ _ _ _ _ _ _ _ _
        refine G_widen (cs' := 0) (sl' := 0) (by omega) (by omega) ?_
        have hT4357 : RS D I P3914 F4350 γ el := RS_fr hT4257 hfr4356 ht4216 (by decide) ⟨f4348, he4353, x4349⟩
        have hs4358 : rStr γ [] F3915 F4350 := rStr_fr hT4257 hs4258 hfr4356 ht4216 (by decide)
        exact G_vretA dr_cX17_back_42 rfl (Nat.le_of_ble_eq_true rfl) (Nat.le_of_ble_eq_true rfl) ⟨F4350, rfl, rfl, hT4357, hs4358, (Nat.le_of_ble_eq_true rfl), (Nat.le_of_ble_eq_true rfl)⟩
abbrev ky_4365_SpillForgeModel_stand : gKey := (cX17_stand, 4, "SpillForgeModel", none, [], "stand", fun _ _ => True)
def pt_4365_SpillForgeModel_stand (D : va_G) (I : FieldType → ClassId) (γ el : Nat → Nat → Nat) (P4360 : List Nat) (F4361 : Nat → va_E) (q4362 : Nat) (q4363 : Nat) (p4364 : Int32) : Option Value → va_W → Nat → Nat → Prop := fun r w dc ds => ∃ (F4744 : Nat → va_E), r = none ∧ w = va_pl P4360 F4744 ∧ RS D I P4360 F4744 γ el ∧ rStr γ [] F4361 F4744 ∧ dc ≤ 0 ∧ ds ≤ 0
set_option maxRecDepth 100000 in
set_option maxHeartbeats 4000000 in
theorem ct_4365_SpillForgeModel_stand (l : Launch) (hl0 : l.stackTraces = false) (D : va_G) (I : FieldType → ClassId) (γ el : Nat → Nat → Nat) (P4360 : List Nat) (F4361 : Nat → va_E) (q4362 : Nat) (q4363 : Nat) (p4364 : Int32) (hT : RS D I P4360 F4361 γ el) (htq4362 : rKd γ q4362 10) (htq4363 : rKd γ q4363 1) (bp4364 : gB p4364 0 1) : CtA (gV D I) l yX17_stand cX17_stand 4 none 2 41 0 0 [.ref q4362, .ref q4363, .int p4364] (va_pl P4360 F4361) (pt_4365_SpillForgeModel_stand D I γ el P4360 F4361 q4362 q4363 p4364) gNA := by
  refine CtA_of hl0 (by decide) (Nat.le_of_ble_eq_true rfl) ?_
  refine G_aload_n 1 dr_cX17_stand_0 rfl ?_
  refine G_iload_n 2 dr_cX17_stand_1 rfl ?_
  have hm4366 : q4363 ∈ P4360 := RS_m hT htq4363 (by decide)
  obtain ⟨p4368, p4369, p4370, p4371, p4372, p4373, p4374, he4367, bp4368, bp4369, bp4372, bp4373, bp4374, r4375, r4376, r4377, r4378, r4379⟩ := show rk_1 γ q4363 (F4361 q4363) from RS_o hT htq4363
  have bp4370 := gB_any p4370
  have bp4371 := gB_any p4371
  refine Gw_callS (As := [.ref q4363, .int p4364]) (gV_ok D I) (cp_1778_SpillForgeModel_setOf l hl0 D I P4360 F4361 q4363 p4364 p4368 p4369 p4370 p4371 p4372 p4373 p4374 hm4366 he4367 bp4364 bp4368 bp4369 bp4372 bp4373 bp4374) dr_cX17_stand_2 ⟨wr_10_178, wr_1_14, wr_10_180, by decide, rfl, (Nat.le_of_ble_eq_true rfl), (Nat.le_of_ble_eq_true rfl)⟩ wr_10_179 (show 0 + 0 ≤ 0 by first | omega | decide) (show 0 + 0 ≤ 0 by first | omega | decide) (Nat.le_of_ble_eq_true rfl) (fun r4383 w4384 dc4380 ds4381 hp4382 => ?_) (fun _ _ _ _ _ z => z.elim)
  obtain ⟨o4385, rfl, rfl, hdc, hds, bo4385⟩ := hp4382
  change G _ _ _ _ _ _ _ (.int o4385 :: _) _ _ _
  refine G_widen (cs' := 0) (sl' := 0) (by omega) (by omega) ?_
  refine G_istore_n (L' := [(3, .int o4385), (0, .ref q4362), (1, .ref q4363), (2, .int p4364)]) dr_cX17_stand_5 (Nat.le_of_ble_eq_true rfl) rfl ?_
  refine G_iload_n 0 dr_cX17_stand_6 rfl ?_
  refine G_if_lt 17 dr_cX17_stand_7 (by decide +kernel) (fun hc4386 => ?_) (fun hc4386 => ?_)
  · have r4387 : o4385.toInt < 0 := gj_lt hc4386 (show Int32.toInt 0 = 0 by decide)
    have bo4385' : gB o4385 (-1) (-1) := ⟨by omega, by omega⟩
    refine G_iload_n 3 dr_cX17_stand_17 rfl ?_
    refine G_if_eq 41 dr_cX17_stand_18 (by decide +kernel) (fun hc4388 => ?_) (fun hc4388 => ?_)
    · have r4389 : p4364.toInt = 0 := gj_eq hc4388 (show Int32.toInt 0 = 0 by decide)
      have bp4364' : gB p4364 0 0 := ⟨by omega, by omega⟩
      refine G_aload_n 2 dr_cX17_stand_41 rfl ?_
      refine Gw_callV (As := []) (gV_ok D I) (cp_1669_Row_usesA l hl0 D I P4360 F4361 q4363 p4368 p4369 p4370 p4371 p4372 p4373 p4374 hm4366 he4367 bp4368 bp4369 bp4372 bp4373 bp4374) dr_cX17_stand_42 ⟨wr_10_192, wr_1_39, wr_10_195, by decide, rfl, (Nat.le_of_ble_eq_true rfl), (Nat.le_of_ble_eq_true rfl)⟩ wr_10_193 wr_10_194 hm4366 he4367 rfl (show 0 + 0 ≤ 0 by first | omega | decide) (show 0 + 0 ≤ 0 by first | omega | decide) (Nat.le_of_ble_eq_true rfl) (fun r4393 w4394 dc4390 ds4391 hp4392 => ?_) (fun _ _ _ _ _ z => z.elim)
      obtain ⟨o4395, rfl, rfl, hdc, hds, bo4395, x4396⟩ := hp4392
      change G _ _ _ _ _ _ _ (.int o4395 :: _) _ _ _
      refine G_widen (cs' := 0) (sl' := 0) (by omega) (by omega) ?_
      refine G_if_eq 58 dr_cX17_stand_45 (by decide +kernel) (fun hc4397 => ?_) (fun hc4397 => ?_)
      · have r4398 : o4395.toInt = 0 := gj_eq hc4397 (show Int32.toInt 0 = 0 by decide)
        have bo4395' : gB o4395 0 0 := ⟨by omega, by omega⟩
        refine G_aload_n 2 dr_cX17_stand_58 rfl ?_
        refine Gw_callV (As := []) (gV_ok D I) (cp_1693_Row_usesB l hl0 D I P4360 F4361 q4363 p4368 p4369 p4370 p4371 p4372 p4373 p4374 hm4366 he4367 bp4368 bp4369 bp4372 bp4373 bp4374) dr_cX17_stand_59 ⟨wr_10_196, wr_1_39, wr_10_199, by decide, rfl, (Nat.le_of_ble_eq_true rfl), (Nat.le_of_ble_eq_true rfl)⟩ wr_10_197 wr_10_198 hm4366 he4367 rfl (show 0 + 0 ≤ 0 by first | omega | decide) (show 0 + 0 ≤ 0 by first | omega | decide) (Nat.le_of_ble_eq_true rfl) (fun r4402 w4403 dc4399 ds4400 hp4401 => ?_) (fun _ _ _ _ _ z => z.elim)
        obtain ⟨o4404, rfl, rfl, hdc, hds, bo4404, x4405⟩ := hp4401
        change G _ _ _ _ _ _ _ (.int o4404 :: _) _ _ _
        refine G_widen (cs' := 0) (sl' := 0) (by omega) (by omega) ?_
        refine G_if_eq 75 dr_cX17_stand_62 (by decide +kernel) (fun hc4406 => ?_) (fun hc4406 => ?_)
        · have r4407 : o4404.toInt = 0 := gj_eq hc4406 (show Int32.toInt 0 = 0 by decide)
          have bo4404' : gB o4404 0 0 := ⟨by omega, by omega⟩
          exact G_vretA dr_cX17_stand_75 rfl (Nat.le_of_ble_eq_true rfl) (Nat.le_of_ble_eq_true rfl) ⟨F4361, rfl, rfl, hT, (rStr_rf (γ := γ) (W := []) (F := F4361)), (Nat.le_of_ble_eq_true rfl), (Nat.le_of_ble_eq_true rfl)⟩
        · have r4408 : o4404.toInt ≠ 0 := gj_neq hc4406 (show Int32.toInt 0 = 0 by decide)
          have bo4404' : gB o4404 1 1 := ⟨by omega, by omega⟩
          refine G_aload_n 1 dr_cX17_stand_65 rfl ?_
          have hm4409 : q4362 ∈ P4360 := RS_m hT htq4362 (by decide)
          obtain ⟨q4411, q4412, p4413, p4414, p4415, p4416, p4417, p4418, p4419, p4420, p4421, p4422, p4423, p4424, p4425, p4426, p4427, he4410, hB4454, ht4428, ht4429, ht4430, ht4431, ht4432, ht4433, ht4434, ht4435, ht4436, ht4437, ht4438, ht4439, ht4440, ht4441, ht4442, ht4443, ht4444, ht4445, ht4446, ht4447, ht4448, ht4449, ht4450, ht4451, hB4455⟩ := show rk_10 γ (F4361 q4362) from RS_o hT htq4362
          refine Gp_get 3 hm4409 he4410 dr_cX17_stand_66 (gk_X17 D I) (Nat.le_of_ble_eq_true rfl) wr_7_77 rfl ?_
          refine G_aload_n 2 dr_cX17_stand_69 rfl ?_
          refine Gp_get 3 hm4366 he4367 dr_cX17_stand_70 (gk_X15 D I) (Nat.le_of_ble_eq_true rfl) wr_9_190 rfl ?_
          refine G_iconst 1 dr_cX17_stand_73 (by decide +kernel) ?_
          have hm4456 : (γ 9 3) ∈ P4360 := RS_m hT ht4433 (by decide)
          obtain ⟨f4458, he4457, bf4458⟩ := show rk_14 I (F4361 (γ 9 3)) from RS_o hT ht4433
          refine Gp_zast 3 hm4456 he4457 dr_cX17_stand_74 rfl (gB_inr (by omega) (by omega)) (fun F4459 e4460 n4461 => ?_)
          obtain ⟨f4462, hf4462⟩ : ∃ z, z = upd f4458 p4371.toNatClampNeg (vp_nar .boolean 1) := ⟨_, rfl⟩
          rw [← hf4462] at e4460
          have he4463 : F4459 q4363 = .inr (20, [.int p4368, .int p4369, .int p4370, .int p4371, .int p4372, .int p4373, .int p4374]) := (n4461 q4363 (rn_oa he4367 he4457)).trans he4367
          have he4464 : F4459 q4362 = .inr (22, [.ref (γ 9 0), .ref (γ 9 1), .ref (γ 9 2), .ref (γ 9 3), .ref (γ 9 4), .ref (γ 9 5), .ref (γ 9 6), .ref (γ 9 7), .ref (γ 9 8), .int p4413, .int p4414, .int p4415, .int p4416, .int p4417, .int p4418, .ref (γ 9 15), .ref (γ 9 16), .ref (γ 9 17), .ref (γ 9 18), .ref (γ 9 19), .ref (γ 9 20), .ref (γ 9 21), .ref (γ 9 22), .int p4419, .int p4420, .int p4421, .int p4422, .int p4423, .ref q4411, .ref (γ 9 29), .int p4424, .ref (γ 9 31), .int p4425, .int p4426, .int p4427, .ref q4412]) := (n4461 q4362 (rn_oa he4410 he4457)).trans he4410
          have he4465 : F4459 (γ 9 3) = .inl (I .boolean, 2000, .inl f4462) := e4460
          have hs4466 : rStr γ [] F4361 F4459 := rStr_put (rStr_rf (γ := γ) (W := []) (F := F4361)) n4461 ht4433 (by decide)
          have bf4462 : gF f4462 0 1 := gF_upd hf4462 bf4458 (gB_w (gBl (show Int32.toInt 1 = 1 by decide)) (by decide) (by decide))
          have hT4467 : RS D I P4360 F4459 γ el := RS_set hT n4461 ht4433 (by decide) ⟨f4462, he4465, bf4462⟩
          exact G_vretA dr_cX17_stand_75 rfl (Nat.le_of_ble_eq_true rfl) (Nat.le_of_ble_eq_true rfl) ⟨F4459, rfl, rfl, hT4467, hs4466, (Nat.le_of_ble_eq_true rfl), (Nat.le_of_ble_eq_true rfl)⟩
      · have r4468 : o4395.toInt ≠ 0 := gj_neq hc4397 (show Int32.toInt 0 = 0 by decide)
        have bo4395' : gB o4395 1 1 := ⟨by omega, by omega⟩
        refine G_aload_n 1 dr_cX17_stand_48 rfl ?_
        have hm4469 : q4362 ∈ P4360 := RS_m hT htq4362 (by decide)
        obtain ⟨q4471, q4472, p4473, p4474, p4475, p4476, p4477, p4478, p4479, p4480, p4481, p4482, p4483, p4484, p4485, p4486, p4487, he4470, hB4514, ht4488, ht4489, ht4490, ht4491, ht4492, ht4493, ht4494, ht4495, ht4496, ht4497, ht4498, ht4499, ht4500, ht4501, ht4502, ht4503, ht4504, ht4505, ht4506, ht4507, ht4508, ht4509, ht4510, ht4511, hB4515⟩ := show rk_10 γ (F4361 q4362) from RS_o hT htq4362
        refine Gp_get 3 hm4469 he4470 dr_cX17_stand_49 (gk_X17 D I) (Nat.le_of_ble_eq_true rfl) wr_7_77 rfl ?_
        refine G_aload_n 2 dr_cX17_stand_52 rfl ?_
        refine Gp_get 2 hm4366 he4367 dr_cX17_stand_53 (gk_X15 D I) (Nat.le_of_ble_eq_true rfl) wr_9_186 rfl ?_
        refine G_iconst 1 dr_cX17_stand_56 (by decide +kernel) ?_
        have hm4516 : (γ 9 3) ∈ P4360 := RS_m hT ht4493 (by decide)
        obtain ⟨f4518, he4517, bf4518⟩ := show rk_14 I (F4361 (γ 9 3)) from RS_o hT ht4493
        refine Gp_zast 3 hm4516 he4517 dr_cX17_stand_57 rfl (gB_inr (by omega) (by omega)) (fun F4519 e4520 n4521 => ?_)
        obtain ⟨f4522, hf4522⟩ : ∃ z, z = upd f4518 p4370.toNatClampNeg (vp_nar .boolean 1) := ⟨_, rfl⟩
        rw [← hf4522] at e4520
        have he4523 : F4519 q4363 = .inr (20, [.int p4368, .int p4369, .int p4370, .int p4371, .int p4372, .int p4373, .int p4374]) := (n4521 q4363 (rn_oa he4367 he4517)).trans he4367
        have he4524 : F4519 q4362 = .inr (22, [.ref (γ 9 0), .ref (γ 9 1), .ref (γ 9 2), .ref (γ 9 3), .ref (γ 9 4), .ref (γ 9 5), .ref (γ 9 6), .ref (γ 9 7), .ref (γ 9 8), .int p4473, .int p4474, .int p4475, .int p4476, .int p4477, .int p4478, .ref (γ 9 15), .ref (γ 9 16), .ref (γ 9 17), .ref (γ 9 18), .ref (γ 9 19), .ref (γ 9 20), .ref (γ 9 21), .ref (γ 9 22), .int p4479, .int p4480, .int p4481, .int p4482, .int p4483, .ref q4471, .ref (γ 9 29), .int p4484, .ref (γ 9 31), .int p4485, .int p4486, .int p4487, .ref q4472]) := (n4521 q4362 (rn_oa he4470 he4517)).trans he4470
        have he4525 : F4519 (γ 9 3) = .inl (I .boolean, 2000, .inl f4522) := e4520
        have hs4526 : rStr γ [] F4361 F4519 := rStr_put (rStr_rf (γ := γ) (W := []) (F := F4361)) n4521 ht4493 (by decide)
        have bf4522 : gF f4522 0 1 := gF_upd hf4522 bf4518 (gB_w (gBl (show Int32.toInt 1 = 1 by decide)) (by decide) (by decide))
        refine G_aload_n 2 dr_cX17_stand_58 rfl ?_
        have hT4527 : RS D I P4360 F4519 γ el := RS_set hT n4521 ht4493 (by decide) ⟨f4522, he4525, bf4522⟩
        refine Gw_callV (As := []) (gV_ok D I) (cp_1693_Row_usesB l hl0 D I P4360 F4519 q4363 p4368 p4369 p4370 p4371 p4372 p4373 p4374 hm4366 he4523 bp4368 bp4369 bp4372 bp4373 bp4374) dr_cX17_stand_59 ⟨wr_10_196, wr_1_39, wr_10_199, by decide, rfl, (Nat.le_of_ble_eq_true rfl), (Nat.le_of_ble_eq_true rfl)⟩ wr_10_197 wr_10_198 hm4366 he4523 rfl (show 0 + 0 ≤ 0 by first | omega | decide) (show 0 + 0 ≤ 0 by first | omega | decide) (Nat.le_of_ble_eq_true rfl) (fun r4531 w4532 dc4528 ds4529 hp4530 => ?_) (fun _ _ _ _ _ z => z.elim)
        obtain ⟨o4533, rfl, rfl, hdc, hds, bo4533, x4534⟩ := hp4530
        change G _ _ _ _ _ _ _ (.int o4533 :: _) _ _ _
        refine G_widen (cs' := 0) (sl' := 0) (by omega) (by omega) ?_
        refine G_if_eq 75 dr_cX17_stand_62 (by decide +kernel) (fun hc4535 => ?_) (fun hc4535 => ?_)
        · have r4536 : o4533.toInt = 0 := gj_eq hc4535 (show Int32.toInt 0 = 0 by decide)
          have bo4533' : gB o4533 0 0 := ⟨by omega, by omega⟩
          exact G_vretA dr_cX17_stand_75 rfl (Nat.le_of_ble_eq_true rfl) (Nat.le_of_ble_eq_true rfl) ⟨F4519, rfl, rfl, hT4527, hs4526, (Nat.le_of_ble_eq_true rfl), (Nat.le_of_ble_eq_true rfl)⟩
        · have r4537 : o4533.toInt ≠ 0 := gj_neq hc4535 (show Int32.toInt 0 = 0 by decide)
          have bo4533' : gB o4533 1 1 := ⟨by omega, by omega⟩
          refine G_aload_n 1 dr_cX17_stand_65 rfl ?_
          refine Gp_get 3 hm4469 he4524 dr_cX17_stand_66 (gk_X17 D I) (Nat.le_of_ble_eq_true rfl) wr_7_77 rfl ?_
          refine G_aload_n 2 dr_cX17_stand_69 rfl ?_
          refine Gp_get 3 hm4366 he4523 dr_cX17_stand_70 (gk_X15 D I) (Nat.le_of_ble_eq_true rfl) wr_9_190 rfl ?_
          refine G_iconst 1 dr_cX17_stand_73 (by decide +kernel) ?_
          refine Gp_zast 3 hm4516 he4525 dr_cX17_stand_74 rfl (gB_inr (by omega) (by omega)) (fun F4538 e4539 n4540 => ?_)
          obtain ⟨f4541, hf4541⟩ : ∃ z, z = upd f4522 p4371.toNatClampNeg (vp_nar .boolean 1) := ⟨_, rfl⟩
          rw [← hf4541] at e4539
          have he4542 : F4538 q4363 = .inr (20, [.int p4368, .int p4369, .int p4370, .int p4371, .int p4372, .int p4373, .int p4374]) := (n4540 q4363 (rn_oa he4523 he4525)).trans he4523
          have he4543 : F4538 q4362 = .inr (22, [.ref (γ 9 0), .ref (γ 9 1), .ref (γ 9 2), .ref (γ 9 3), .ref (γ 9 4), .ref (γ 9 5), .ref (γ 9 6), .ref (γ 9 7), .ref (γ 9 8), .int p4473, .int p4474, .int p4475, .int p4476, .int p4477, .int p4478, .ref (γ 9 15), .ref (γ 9 16), .ref (γ 9 17), .ref (γ 9 18), .ref (γ 9 19), .ref (γ 9 20), .ref (γ 9 21), .ref (γ 9 22), .int p4479, .int p4480, .int p4481, .int p4482, .int p4483, .ref q4471, .ref (γ 9 29), .int p4484, .ref (γ 9 31), .int p4485, .int p4486, .int p4487, .ref q4472]) := (n4540 q4362 (rn_oa he4524 he4525)).trans he4524
          have he4544 : F4538 (γ 9 3) = .inl (I .boolean, 2000, .inl f4541) := e4539
          have hs4545 : rStr γ [] F4361 F4538 := rStr_put hs4526 n4540 ht4493 (by decide)
          have bf4541 : gF f4541 0 1 := gF_upd hf4541 bf4522 (gB_w (gBl (show Int32.toInt 1 = 1 by decide)) (by decide) (by decide))
          have hT4546 : RS D I P4360 F4538 γ el := RS_set hT4527 n4540 ht4493 (by decide) ⟨f4541, he4544, bf4541⟩
          exact G_vretA dr_cX17_stand_75 rfl (Nat.le_of_ble_eq_true rfl) (Nat.le_of_ble_eq_true rfl) ⟨F4538, rfl, rfl, hT4546, hs4545, (Nat.le_of_ble_eq_true rfl), (Nat.le_of_ble_eq_true rfl)⟩
    · have r4547 : p4364.toInt ≠ 0 := gj_neq hc4388 (show Int32.toInt 0 = 0 by decide)
      have bp4364' : gB p4364 1 1 := ⟨by omega, by omega⟩
      refine G_aload_n 2 dr_cX17_stand_21 rfl ?_
      refine Gp_get 0 hm4366 he4367 dr_cX17_stand_22 (gk_X15 D I) (Nat.le_of_ble_eq_true rfl) wr_9_177 rfl ?_
      refine G_bipush 21 dr_cX17_stand_25 (by decide +kernel) ?_
      refine G_icmp_ne 40 dr_cX17_stand_27 (by decide +kernel) (fun hc4548 => ?_) (fun hc4548 => ?_)
      · have r4549 : p4368.toInt ≠ 21 := gj_neq hc4548 (show Int32.toInt 21 = 21 by decide)
        exact G_vretA dr_cX17_stand_40 rfl (Nat.le_of_ble_eq_true rfl) (Nat.le_of_ble_eq_true rfl) ⟨F4361, rfl, rfl, hT, (rStr_rf (γ := γ) (W := []) (F := F4361)), (Nat.le_of_ble_eq_true rfl), (Nat.le_of_ble_eq_true rfl)⟩
      · have r4550 : p4368.toInt = 21 := gj_eq hc4548 (show Int32.toInt 21 = 21 by decide)
        have bp4368' : gB p4368 21 21 := ⟨by omega, by omega⟩
        refine G_aload_n 1 dr_cX17_stand_30 rfl ?_
        have hm4551 : q4362 ∈ P4360 := RS_m hT htq4362 (by decide)
        obtain ⟨q4553, q4554, p4555, p4556, p4557, p4558, p4559, p4560, p4561, p4562, p4563, p4564, p4565, p4566, p4567, p4568, p4569, he4552, hB4596, ht4570, ht4571, ht4572, ht4573, ht4574, ht4575, ht4576, ht4577, ht4578, ht4579, ht4580, ht4581, ht4582, ht4583, ht4584, ht4585, ht4586, ht4587, ht4588, ht4589, ht4590, ht4591, ht4592, ht4593, hB4597⟩ := show rk_10 γ (F4361 q4362) from RS_o hT htq4362
        refine Gp_get 3 hm4551 he4552 dr_cX17_stand_31 (gk_X17 D I) (Nat.le_of_ble_eq_true rfl) wr_7_77 rfl ?_
        refine G_aload_n 2 dr_cX17_stand_34 rfl ?_
        refine Gp_get 4 hm4366 he4367 dr_cX17_stand_35 (gk_X15 D I) (Nat.le_of_ble_eq_true rfl) wr_9_193 rfl ?_
        refine G_iconst 1 dr_cX17_stand_38 (by decide +kernel) ?_
        have hm4598 : (γ 9 3) ∈ P4360 := RS_m hT ht4575 (by decide)
        obtain ⟨f4600, he4599, bf4600⟩ := show rk_14 I (F4361 (γ 9 3)) from RS_o hT ht4575
        refine Gp_zast 3 hm4598 he4599 dr_cX17_stand_39 rfl (gB_in bp4372 (by decide) (by decide)) (fun F4601 e4602 n4603 => ?_)
        obtain ⟨f4604, hf4604⟩ : ∃ z, z = upd f4600 p4372.toNatClampNeg (vp_nar .boolean 1) := ⟨_, rfl⟩
        rw [← hf4604] at e4602
        have he4605 : F4601 q4363 = .inr (20, [.int p4368, .int p4369, .int p4370, .int p4371, .int p4372, .int p4373, .int p4374]) := (n4603 q4363 (rn_oa he4367 he4599)).trans he4367
        have he4606 : F4601 q4362 = .inr (22, [.ref (γ 9 0), .ref (γ 9 1), .ref (γ 9 2), .ref (γ 9 3), .ref (γ 9 4), .ref (γ 9 5), .ref (γ 9 6), .ref (γ 9 7), .ref (γ 9 8), .int p4555, .int p4556, .int p4557, .int p4558, .int p4559, .int p4560, .ref (γ 9 15), .ref (γ 9 16), .ref (γ 9 17), .ref (γ 9 18), .ref (γ 9 19), .ref (γ 9 20), .ref (γ 9 21), .ref (γ 9 22), .int p4561, .int p4562, .int p4563, .int p4564, .int p4565, .ref q4553, .ref (γ 9 29), .int p4566, .ref (γ 9 31), .int p4567, .int p4568, .int p4569, .ref q4554]) := (n4603 q4362 (rn_oa he4552 he4599)).trans he4552
        have he4607 : F4601 (γ 9 3) = .inl (I .boolean, 2000, .inl f4604) := e4602
        have hs4608 : rStr γ [] F4361 F4601 := rStr_put (rStr_rf (γ := γ) (W := []) (F := F4361)) n4603 ht4575 (by decide)
        have bf4604 : gF f4604 0 1 := gF_upd hf4604 bf4600 (gB_w (gBl (show Int32.toInt 1 = 1 by decide)) (by decide) (by decide))
        have hT4609 : RS D I P4360 F4601 γ el := RS_set hT n4603 ht4575 (by decide) ⟨f4604, he4607, bf4604⟩
        exact G_vretA dr_cX17_stand_40 rfl (Nat.le_of_ble_eq_true rfl) (Nat.le_of_ble_eq_true rfl) ⟨F4601, rfl, rfl, hT4609, hs4608, (Nat.le_of_ble_eq_true rfl), (Nat.le_of_ble_eq_true rfl)⟩
  · have r4610 : 0 ≤ o4385.toInt := gj_nlt hc4386 (show Int32.toInt 0 = 0 by decide)
    have bo4385' : gB o4385 0 1999 := ⟨by omega, by omega⟩
    refine G_aload_n 1 dr_cX17_stand_10 rfl ?_
    have hm4611 : q4362 ∈ P4360 := RS_m hT htq4362 (by decide)
    obtain ⟨q4613, q4614, p4615, p4616, p4617, p4618, p4619, p4620, p4621, p4622, p4623, p4624, p4625, p4626, p4627, p4628, p4629, he4612, hB4656, ht4630, ht4631, ht4632, ht4633, ht4634, ht4635, ht4636, ht4637, ht4638, ht4639, ht4640, ht4641, ht4642, ht4643, ht4644, ht4645, ht4646, ht4647, ht4648, ht4649, ht4650, ht4651, ht4652, ht4653, hB4657⟩ := show rk_10 γ (F4361 q4362) from RS_o hT htq4362
    refine Gp_get 3 hm4611 he4612 dr_cX17_stand_11 (gk_X17 D I) (Nat.le_of_ble_eq_true rfl) wr_7_77 rfl ?_
    refine G_iload_n 0 dr_cX17_stand_14 rfl ?_
    refine G_iconst 1 dr_cX17_stand_15 (by decide +kernel) ?_
    have hm4658 : (γ 9 3) ∈ P4360 := RS_m hT ht4635 (by decide)
    obtain ⟨f4660, he4659, bf4660⟩ := show rk_14 I (F4361 (γ 9 3)) from RS_o hT ht4635
    refine Gp_zast 3 hm4658 he4659 dr_cX17_stand_16 rfl (gB_in bo4385' (by decide) (by decide)) (fun F4661 e4662 n4663 => ?_)
    obtain ⟨f4664, hf4664⟩ : ∃ z, z = upd f4660 o4385.toNatClampNeg (vp_nar .boolean 1) := ⟨_, rfl⟩
    rw [← hf4664] at e4662
    have he4665 : F4661 q4363 = .inr (20, [.int p4368, .int p4369, .int p4370, .int p4371, .int p4372, .int p4373, .int p4374]) := (n4663 q4363 (rn_oa he4367 he4659)).trans he4367
    have he4666 : F4661 q4362 = .inr (22, [.ref (γ 9 0), .ref (γ 9 1), .ref (γ 9 2), .ref (γ 9 3), .ref (γ 9 4), .ref (γ 9 5), .ref (γ 9 6), .ref (γ 9 7), .ref (γ 9 8), .int p4615, .int p4616, .int p4617, .int p4618, .int p4619, .int p4620, .ref (γ 9 15), .ref (γ 9 16), .ref (γ 9 17), .ref (γ 9 18), .ref (γ 9 19), .ref (γ 9 20), .ref (γ 9 21), .ref (γ 9 22), .int p4621, .int p4622, .int p4623, .int p4624, .int p4625, .ref q4613, .ref (γ 9 29), .int p4626, .ref (γ 9 31), .int p4627, .int p4628, .int p4629, .ref q4614]) := (n4663 q4362 (rn_oa he4612 he4659)).trans he4612
    have he4667 : F4661 (γ 9 3) = .inl (I .boolean, 2000, .inl f4664) := e4662
    have hs4668 : rStr γ [] F4361 F4661 := rStr_put (rStr_rf (γ := γ) (W := []) (F := F4361)) n4663 ht4635 (by decide)
    have bf4664 : gF f4664 0 1 := gF_upd hf4664 bf4660 (gB_w (gBl (show Int32.toInt 1 = 1 by decide)) (by decide) (by decide))
    refine G_iload_n 3 dr_cX17_stand_17 rfl ?_
    refine G_if_eq 41 dr_cX17_stand_18 (by decide +kernel) (fun hc4669 => ?_) (fun hc4669 => ?_)
    · have r4670 : p4364.toInt = 0 := gj_eq hc4669 (show Int32.toInt 0 = 0 by decide)
      have bp4364' : gB p4364 0 0 := ⟨by omega, by omega⟩
      refine G_aload_n 2 dr_cX17_stand_41 rfl ?_
      have hT4671 : RS D I P4360 F4661 γ el := RS_set hT n4663 ht4635 (by decide) ⟨f4664, he4667, bf4664⟩
      refine Gw_callV (As := []) (gV_ok D I) (cp_1669_Row_usesA l hl0 D I P4360 F4661 q4363 p4368 p4369 p4370 p4371 p4372 p4373 p4374 hm4366 he4665 bp4368 bp4369 bp4372 bp4373 bp4374) dr_cX17_stand_42 ⟨wr_10_192, wr_1_39, wr_10_195, by decide, rfl, (Nat.le_of_ble_eq_true rfl), (Nat.le_of_ble_eq_true rfl)⟩ wr_10_193 wr_10_194 hm4366 he4665 rfl (show 0 + 0 ≤ 0 by first | omega | decide) (show 0 + 0 ≤ 0 by first | omega | decide) (Nat.le_of_ble_eq_true rfl) (fun r4675 w4676 dc4672 ds4673 hp4674 => ?_) (fun _ _ _ _ _ z => z.elim)
      obtain ⟨o4677, rfl, rfl, hdc, hds, bo4677, x4678⟩ := hp4674
      change G _ _ _ _ _ _ _ (.int o4677 :: _) _ _ _
      refine G_widen (cs' := 0) (sl' := 0) (by omega) (by omega) ?_
      refine G_if_eq 58 dr_cX17_stand_45 (by decide +kernel) (fun hc4679 => ?_) (fun hc4679 => ?_)
      · have r4680 : o4677.toInt = 0 := gj_eq hc4679 (show Int32.toInt 0 = 0 by decide)
        have bo4677' : gB o4677 0 0 := ⟨by omega, by omega⟩
        refine G_aload_n 2 dr_cX17_stand_58 rfl ?_
        refine Gw_callV (As := []) (gV_ok D I) (cp_1693_Row_usesB l hl0 D I P4360 F4661 q4363 p4368 p4369 p4370 p4371 p4372 p4373 p4374 hm4366 he4665 bp4368 bp4369 bp4372 bp4373 bp4374) dr_cX17_stand_59 ⟨wr_10_196, wr_1_39, wr_10_199, by decide, rfl, (Nat.le_of_ble_eq_true rfl), (Nat.le_of_ble_eq_true rfl)⟩ wr_10_197 wr_10_198 hm4366 he4665 rfl (show 0 + 0 ≤ 0 by first | omega | decide) (show 0 + 0 ≤ 0 by first | omega | decide) (Nat.le_of_ble_eq_true rfl) (fun r4684 w4685 dc4681 ds4682 hp4683 => ?_) (fun _ _ _ _ _ z => z.elim)
        obtain ⟨o4686, rfl, rfl, hdc, hds, bo4686, x4687⟩ := hp4683
        change G _ _ _ _ _ _ _ (.int o4686 :: _) _ _ _
        refine G_widen (cs' := 0) (sl' := 0) (by omega) (by omega) ?_
        refine G_if_eq 75 dr_cX17_stand_62 (by decide +kernel) (fun hc4688 => ?_) (fun hc4688 => ?_)
        · have r4689 : o4686.toInt = 0 := gj_eq hc4688 (show Int32.toInt 0 = 0 by decide)
          have bo4686' : gB o4686 0 0 := ⟨by omega, by omega⟩
          exact G_vretA dr_cX17_stand_75 rfl (Nat.le_of_ble_eq_true rfl) (Nat.le_of_ble_eq_true rfl) ⟨F4661, rfl, rfl, hT4671, hs4668, (Nat.le_of_ble_eq_true rfl), (Nat.le_of_ble_eq_true rfl)⟩
        · have r4690 : o4686.toInt ≠ 0 := gj_neq hc4688 (show Int32.toInt 0 = 0 by decide)
          have bo4686' : gB o4686 1 1 := ⟨by omega, by omega⟩
          refine G_aload_n 1 dr_cX17_stand_65 rfl ?_
          refine Gp_get 3 hm4611 he4666 dr_cX17_stand_66 (gk_X17 D I) (Nat.le_of_ble_eq_true rfl) wr_7_77 rfl ?_
          refine G_aload_n 2 dr_cX17_stand_69 rfl ?_
          refine Gp_get 3 hm4366 he4665 dr_cX17_stand_70 (gk_X15 D I) (Nat.le_of_ble_eq_true rfl) wr_9_190 rfl ?_
          refine G_iconst 1 dr_cX17_stand_73 (by decide +kernel) ?_
          refine Gp_zast 3 hm4658 he4667 dr_cX17_stand_74 rfl (gB_inr (by omega) (by omega)) (fun F4691 e4692 n4693 => ?_)
          obtain ⟨f4694, hf4694⟩ : ∃ z, z = upd f4664 p4371.toNatClampNeg (vp_nar .boolean 1) := ⟨_, rfl⟩
          rw [← hf4694] at e4692
          have he4695 : F4691 q4363 = .inr (20, [.int p4368, .int p4369, .int p4370, .int p4371, .int p4372, .int p4373, .int p4374]) := (n4693 q4363 (rn_oa he4665 he4667)).trans he4665
          have he4696 : F4691 q4362 = .inr (22, [.ref (γ 9 0), .ref (γ 9 1), .ref (γ 9 2), .ref (γ 9 3), .ref (γ 9 4), .ref (γ 9 5), .ref (γ 9 6), .ref (γ 9 7), .ref (γ 9 8), .int p4615, .int p4616, .int p4617, .int p4618, .int p4619, .int p4620, .ref (γ 9 15), .ref (γ 9 16), .ref (γ 9 17), .ref (γ 9 18), .ref (γ 9 19), .ref (γ 9 20), .ref (γ 9 21), .ref (γ 9 22), .int p4621, .int p4622, .int p4623, .int p4624, .int p4625, .ref q4613, .ref (γ 9 29), .int p4626, .ref (γ 9 31), .int p4627, .int p4628, .int p4629, .ref q4614]) := (n4693 q4362 (rn_oa he4666 he4667)).trans he4666
          have he4697 : F4691 (γ 9 3) = .inl (I .boolean, 2000, .inl f4694) := e4692
          have hs4698 : rStr γ [] F4361 F4691 := rStr_put hs4668 n4693 ht4635 (by decide)
          have bf4694 : gF f4694 0 1 := gF_upd hf4694 bf4664 (gB_w (gBl (show Int32.toInt 1 = 1 by decide)) (by decide) (by decide))
          have hT4699 : RS D I P4360 F4691 γ el := RS_set hT4671 n4693 ht4635 (by decide) ⟨f4694, he4697, bf4694⟩
          exact G_vretA dr_cX17_stand_75 rfl (Nat.le_of_ble_eq_true rfl) (Nat.le_of_ble_eq_true rfl) ⟨F4691, rfl, rfl, hT4699, hs4698, (Nat.le_of_ble_eq_true rfl), (Nat.le_of_ble_eq_true rfl)⟩
      · have r4700 : o4677.toInt ≠ 0 := gj_neq hc4679 (show Int32.toInt 0 = 0 by decide)
        have bo4677' : gB o4677 1 1 := ⟨by omega, by omega⟩
        refine G_aload_n 1 dr_cX17_stand_48 rfl ?_
        refine Gp_get 3 hm4611 he4666 dr_cX17_stand_49 (gk_X17 D I) (Nat.le_of_ble_eq_true rfl) wr_7_77 rfl ?_
        refine G_aload_n 2 dr_cX17_stand_52 rfl ?_
        refine Gp_get 2 hm4366 he4665 dr_cX17_stand_53 (gk_X15 D I) (Nat.le_of_ble_eq_true rfl) wr_9_186 rfl ?_
        refine G_iconst 1 dr_cX17_stand_56 (by decide +kernel) ?_
        refine Gp_zast 3 hm4658 he4667 dr_cX17_stand_57 rfl (gB_inr (by omega) (by omega)) (fun F4701 e4702 n4703 => ?_)
        obtain ⟨f4704, hf4704⟩ : ∃ z, z = upd f4664 p4370.toNatClampNeg (vp_nar .boolean 1) := ⟨_, rfl⟩
        rw [← hf4704] at e4702
        have he4705 : F4701 q4363 = .inr (20, [.int p4368, .int p4369, .int p4370, .int p4371, .int p4372, .int p4373, .int p4374]) := (n4703 q4363 (rn_oa he4665 he4667)).trans he4665
        have he4706 : F4701 q4362 = .inr (22, [.ref (γ 9 0), .ref (γ 9 1), .ref (γ 9 2), .ref (γ 9 3), .ref (γ 9 4), .ref (γ 9 5), .ref (γ 9 6), .ref (γ 9 7), .ref (γ 9 8), .int p4615, .int p4616, .int p4617, .int p4618, .int p4619, .int p4620, .ref (γ 9 15), .ref (γ 9 16), .ref (γ 9 17), .ref (γ 9 18), .ref (γ 9 19), .ref (γ 9 20), .ref (γ 9 21), .ref (γ 9 22), .int p4621, .int p4622, .int p4623, .int p4624, .int p4625, .ref q4613, .ref (γ 9 29), .int p4626, .ref (γ 9 31), .int p4627, .int p4628, .int p4629, .ref q4614]) := (n4703 q4362 (rn_oa he4666 he4667)).trans he4666
        have he4707 : F4701 (γ 9 3) = .inl (I .boolean, 2000, .inl f4704) := e4702
        have hs4708 : rStr γ [] F4361 F4701 := rStr_put hs4668 n4703 ht4635 (by decide)
        have bf4704 : gF f4704 0 1 := gF_upd hf4704 bf4664 (gB_w (gBl (show Int32.toInt 1 = 1 by decide)) (by decide) (by decide))
        refine G_aload_n 2 dr_cX17_stand_58 rfl ?_
        have hT4709 : RS D I P4360 F4701 γ el := RS_set hT4671 n4703 ht4635 (by decide) ⟨f4704, he4707, bf4704⟩
        refine Gw_callV (As := []) (gV_ok D I) (cp_1693_Row_usesB l hl0 D I P4360 F4701 q4363 p4368 p4369 p4370 p4371 p4372 p4373 p4374 hm4366 he4705 bp4368 bp4369 bp4372 bp4373 bp4374) dr_cX17_stand_59 ⟨wr_10_196, wr_1_39, wr_10_199, by decide, rfl, (Nat.le_of_ble_eq_true rfl), (Nat.le_of_ble_eq_true rfl)⟩ wr_10_197 wr_10_198 hm4366 he4705 rfl (show 0 + 0 ≤ 0 by first | omega | decide) (show 0 + 0 ≤ 0 by first | omega | decide) (Nat.le_of_ble_eq_true rfl) (fun r4713 w4714 dc4710 ds4711 hp4712 => ?_) (fun _ _ _ _ _ z => z.elim)
        obtain ⟨o4715, rfl, rfl, hdc, hds, bo4715, x4716⟩ := hp4712
        change G _ _ _ _ _ _ _ (.int o4715 :: _) _ _ _
        refine G_widen (cs' := 0) (sl' := 0) (by omega) (by omega) ?_
        refine G_if_eq 75 dr_cX17_stand_62 (by decide +kernel) (fun hc4717 => ?_) (fun hc4717 => ?_)
        · have r4718 : o4715.toInt = 0 := gj_eq hc4717 (show Int32.toInt 0 = 0 by decide)
          have bo4715' : gB o4715 0 0 := ⟨by omega, by omega⟩
          exact G_vretA dr_cX17_stand_75 rfl (Nat.le_of_ble_eq_true rfl) (Nat.le_of_ble_eq_true rfl) ⟨F4701, rfl, rfl, hT4709, hs4708, (Nat.le_of_ble_eq_true rfl), (Nat.le_of_ble_eq_true rfl)⟩
        · have r4719 : o4715.toInt ≠ 0 := gj_neq hc4717 (show Int32.toInt 0 = 0 by decide)
          have bo4715' : gB o4715 1 1 := ⟨by omega, by omega⟩
          refine G_aload_n 1 dr_cX17_stand_65 rfl ?_
          refine Gp_get 3 hm4611 he4706 dr_cX17_stand_66 (gk_X17 D I) (Nat.le_of_ble_eq_true rfl) wr_7_77 rfl ?_
          refine G_aload_n 2 dr_cX17_stand_69 rfl ?_
          refine Gp_get 3 hm4366 he4705 dr_cX17_stand_70 (gk_X15 D I) (Nat.le_of_ble_eq_true rfl) wr_9_190 rfl ?_
          refine G_iconst 1 dr_cX17_stand_73 (by decide +kernel) ?_
          refine Gp_zast 3 hm4658 he4707 dr_cX17_stand_74 rfl (gB_inr (by omega) (by omega)) (fun F4720 e4721 n4722 => ?_)
          obtain ⟨f4723, hf4723⟩ : ∃ z, z = upd f4704 p4371.toNatClampNeg (vp_nar .boolean 1) := ⟨_, rfl⟩
          rw [← hf4723] at e4721
          have he4724 : F4720 q4363 = .inr (20, [.int p4368, .int p4369, .int p4370, .int p4371, .int p4372, .int p4373, .int p4374]) := (n4722 q4363 (rn_oa he4705 he4707)).trans he4705
          have he4725 : F4720 q4362 = .inr (22, [.ref (γ 9 0), .ref (γ 9 1), .ref (γ 9 2), .ref (γ 9 3), .ref (γ 9 4), .ref (γ 9 5), .ref (γ 9 6), .ref (γ 9 7), .ref (γ 9 8), .int p4615, .int p4616, .int p4617, .int p4618, .int p4619, .int p4620, .ref (γ 9 15), .ref (γ 9 16), .ref (γ 9 17), .ref (γ 9 18), .ref (γ 9 19), .ref (γ 9 20), .ref (γ 9 21), .ref (γ 9 22), .int p4621, .int p4622, .int p4623, .int p4624, .int p4625, .ref q4613, .ref (γ 9 29), .int p4626, .ref (γ 9 31), .int p4627, .int p4628, .int p4629, .ref q4614]) := (n4722 q4362 (rn_oa he4706 he4707)).trans he4706
          have he4726 : F4720 (γ 9 3) = .inl (I .boolean, 2000, .inl f4723) := e4721
          have hs4727 : rStr γ [] F4361 F4720 := rStr_put hs4708 n4722 ht4635 (by decide)
          have bf4723 : gF f4723 0 1 := gF_upd hf4723 bf4704 (gB_w (gBl (show Int32.toInt 1 = 1 by decide)) (by decide) (by decide))
          have hT4728 : RS D I P4360 F4720 γ el := RS_set hT4709 n4722 ht4635 (by decide) ⟨f4723, he4726, bf4723⟩
          exact G_vretA dr_cX17_stand_75 rfl (Nat.le_of_ble_eq_true rfl) (Nat.le_of_ble_eq_true rfl) ⟨F4720, rfl, rfl, hT4728, hs4727, (Nat.le_of_ble_eq_true rfl), (Nat.le_of_ble_eq_true rfl)⟩
    · have r4729 : p4364.toInt ≠ 0 := gj_neq hc4669 (show Int32.toInt 0 = 0 by decide)
      have bp4364' : gB p4364 1 1 := ⟨by omega, by omega⟩
      refine G_aload_n 2 dr_cX17_stand_21 rfl ?_
      refine Gp_get 0 hm4366 he4665 dr_cX17_stand_22 (gk_X15 D I) (Nat.le_of_ble_eq_true rfl) wr_9_177 rfl ?_
      refine G_bipush 21 dr_cX17_stand_25 (by decide +kernel) ?_
      refine G_icmp_ne 40 dr_cX17_stand_27 (by decide +kernel) (fun hc4730 => ?_) (fun hc4730 => ?_)
      · have r4731 : p4368.toInt ≠ 21 := gj_neq hc4730 (show Int32.toInt 21 = 21 by decide)
        have hT4732 : RS D I P4360 F4661 γ el := RS_set hT n4663 ht4635 (by decide) ⟨f4664, he4667, bf4664⟩
        exact G_vretA dr_cX17_stand_40 rfl (Nat.le_of_ble_eq_true rfl) (Nat.le_of_ble_eq_true rfl) ⟨F4661, rfl, rfl, hT4732, hs4668, (Nat.le_of_ble_eq_true rfl), (Nat.le_of_ble_eq_true rfl)⟩
      · have r4733 : p4368.toInt = 21 := gj_eq hc4730 (show Int32.toInt 21 = 21 by decide)
        have bp4368' : gB p4368 21 21 := ⟨by omega, by omega⟩
        refine G_aload_n 1 dr_cX17_stand_30 rfl ?_
        refine Gp_get 3 hm4611 he4666 dr_cX17_stand_31 (gk_X17 D I) (Nat.le_of_ble_eq_true rfl) wr_7_77 rfl ?_
        refine G_aload_n 2 dr_cX17_stand_34 rfl ?_
        refine Gp_get 4 hm4366 he4665 dr_cX17_stand_35 (gk_X15 D I) (Nat.le_of_ble_eq_true rfl) wr_9_193 rfl ?_
        refine G_iconst 1 dr_cX17_stand_38 (by decide +kernel) ?_
        refine Gp_zast 3 hm4658 he4667 dr_cX17_stand_39 rfl (gB_in bp4372 (by decide) (by decide)) (fun F4734 e4735 n4736 => ?_)
        obtain ⟨f4737, hf4737⟩ : ∃ z, z = upd f4664 p4372.toNatClampNeg (vp_nar .boolean 1) := ⟨_, rfl⟩
        rw [← hf4737] at e4735
        have he4738 : F4734 q4363 = .inr (20, [.int p4368, .int p4369, .int p4370, .int p4371, .int p4372, .int p4373, .int p4374]) := (n4736 q4363 (rn_oa he4665 he4667)).trans he4665
        have he4739 : F4734 q4362 = .inr (22, [.ref (γ 9 0), .ref (γ 9 1), .ref (γ 9 2), .ref (γ 9 3), .ref (γ 9 4), .ref (γ 9 5), .ref (γ 9 6), .ref (γ 9 7), .ref (γ 9 8), .int p4615, .int p4616, .int p4617, .int p4618, .int p4619, .int p4620, .ref (γ 9 15), .ref (γ 9 16), .ref (γ 9 17), .ref (γ 9 18), .ref (γ 9 19), .ref (γ 9 20), .ref (γ 9 21), .ref (γ 9 22), .int p4621, .int p4622, .int p4623, .int p4624, .int p4625, .ref q4613, .ref (γ 9 29), .int p4626, .ref (γ 9 31), .int p4627, .int p4628, .int p4629, .ref q4614]) := (n4736 q4362 (rn_oa he4666 he4667)).trans he4666
        have he4740 : F4734 (γ 9 3) = .inl (I .boolean, 2000, .inl f4737) := e4735
        have hs4741 : rStr γ [] F4361 F4734 := rStr_put hs4668 n4736 ht4635 (by decide)
        have n4742 : ∀ b, b ≠ (γ 9 3) → F4734 b = F4361 b := fun b hb => (n4736 b hb).trans (n4663 b hb)
        have bf4737 : gF f4737 0 1 := gF_upd hf4737 bf4664 (gB_w (gBl (show Int32.toInt 1 = 1 by decide)) (by decide) (by decide))
        have hT4743 : RS D I P4360 F4734 γ el := RS_set hT n4742 ht4635 (by decide) ⟨f4737, he4740, bf4737⟩
        exact G_vretA dr_cX17_stand_40 rfl (Nat.le_of_ble_eq_true rfl) (Nat.le_of_ble_eq_true rfl) ⟨F4734, rfl, rfl, hT4743, hs4741, (Nat.le_of_ble_eq_true rfl), (Nat.le_of_ble_eq_true rfl)⟩
