theorem dr_cX17_back_0 : decode cX17_back 0 = .ok (.aload_n 1, 1) := by decide +kernel
theorem dr_cX17_back_1 : decode cX17_back 1 = .ok (.iload_n 2, 1) := by decide +kernel
theorem dr_cX17_back_2 : decode cX17_back 2 = .ok (.invokestatic 55, 3) := by decide +kernel
theorem wr_10_178 : (Jvm.Cond.methodLink "SpillForgeModel" (55 : Nat) ({ cls := "SpillForgeModel", name := "setOf", desc := "(LSpillForgeModel$Row;Z)I" } : Jvm.MethodName)) ∈ gw := gw_10 178 rfl rfl
theorem wr_1_14 : (Jvm.Cond.initialized "SpillForgeModel") ∈ gw := gw_1 14 rfl rfl
theorem wr_10_180 : (Jvm.Cond.code ({ cls := "SpillForgeModel", name := "setOf", desc := "(LSpillForgeModel$Row;Z)I" } : Jvm.MethodName) prog_14_method_6_code (2 : Nat) (Option.some Jvm.ClassFile.FieldType.int)) ∈ gw := gw_10 180 rfl rfl
theorem wr_10_179 : (Jvm.Cond.static ({ cls := "SpillForgeModel", name := "setOf", desc := "(LSpillForgeModel$Row;Z)I" } : Jvm.MethodName)) ∈ gw := gw_10 179 rfl rfl
theorem dr_cX17_back_5 : decode cX17_back 5 = .ok (.istore_n 3, 1) := by decide +kernel
theorem dr_cX17_back_6 : decode cX17_back 6 = .ok (.iload_n 3, 1) := by decide +kernel
theorem dr_cX17_back_7 : decode cX17_back 7 = .ok (.ifCond .lt 11, 3) := by decide +kernel
theorem dr_cX17_back_18 : decode cX17_back 18 = .ok (.iload_n 2, 1) := by decide +kernel
theorem dr_cX17_back_19 : decode cX17_back 19 = .ok (.ifCond .eq 24, 3) := by decide +kernel
theorem dr_cX17_back_43 : decode cX17_back 43 = .ok (.aload_n 1, 1) := by decide +kernel
theorem dr_cX17_back_44 : decode cX17_back 44 = .ok (.invokevirtual 70, 3) := by decide +kernel
theorem wr_10_192 : (Jvm.Cond.methodLink "SpillForgeModel" (70 : Nat) ({ cls := "SpillForgeModel$Row", name := "usesA", desc := "()Z" } : Jvm.MethodName)) ∈ gw := gw_10 192 rfl rfl
theorem wr_10_195 : (Jvm.Cond.code ({ cls := "SpillForgeModel$Row", name := "usesA", desc := "()Z" } : Jvm.MethodName) prog_18_method_3_code (1 : Nat) (Option.some Jvm.ClassFile.FieldType.boolean)) ∈ gw := gw_10 195 rfl rfl
theorem wr_10_193 : (Jvm.Cond.instanceMethod ({ cls := "SpillForgeModel$Row", name := "usesA", desc := "()Z" } : Jvm.MethodName)) ∈ gw := gw_10 193 rfl rfl
theorem wr_10_194 : (Jvm.Cond.selects "SpillForgeModel$Row" ({ cls := "SpillForgeModel$Row", name := "usesA", desc := "()Z" } : Jvm.MethodName) ({ cls := "SpillForgeModel$Row", name := "usesA", desc := "()Z" } : Jvm.MethodName)) ∈ gw := gw_10 194 rfl rfl
theorem dr_cX17_back_47 : decode cX17_back 47 = .ok (.ifCond .eq 14, 3) := by decide +kernel
theorem dr_cX17_back_61 : decode cX17_back 61 = .ok (.aload_n 1, 1) := by decide +kernel
theorem dr_cX17_back_62 : decode cX17_back 62 = .ok (.invokevirtual 76, 3) := by decide +kernel
theorem wr_10_196 : (Jvm.Cond.methodLink "SpillForgeModel" (76 : Nat) ({ cls := "SpillForgeModel$Row", name := "usesB", desc := "()Z" } : Jvm.MethodName)) ∈ gw := gw_10 196 rfl rfl
theorem wr_10_199 : (Jvm.Cond.code ({ cls := "SpillForgeModel$Row", name := "usesB", desc := "()Z" } : Jvm.MethodName) prog_18_method_4_code (1 : Nat) (Option.some Jvm.ClassFile.FieldType.boolean)) ∈ gw := gw_10 199 rfl rfl
theorem wr_10_197 : (Jvm.Cond.instanceMethod ({ cls := "SpillForgeModel$Row", name := "usesB", desc := "()Z" } : Jvm.MethodName)) ∈ gw := gw_10 197 rfl rfl
theorem wr_10_198 : (Jvm.Cond.selects "SpillForgeModel$Row" ({ cls := "SpillForgeModel$Row", name := "usesB", desc := "()Z" } : Jvm.MethodName) ({ cls := "SpillForgeModel$Row", name := "usesB", desc := "()Z" } : Jvm.MethodName)) ∈ gw := gw_10 198 rfl rfl
theorem dr_cX17_back_65 : decode cX17_back 65 = .ok (.ifCond .eq 14, 3) := by decide +kernel
theorem dr_cX17_back_79 : decode cX17_back 79 = .ok (.return_, 1) := by decide +kernel
theorem dr_cX17_back_68 : decode cX17_back 68 = .ok (.aload_n 0, 1) := by decide +kernel
theorem dr_cX17_back_69 : decode cX17_back 69 = .ok (.getfield 59, 3) := by decide +kernel
theorem wr_7_76 : (Jvm.Cond.fieldLink "SpillForgeModel" (59 : Nat) "SpillForgeModel" "now" "[J") ∈ gw := gw_7 76 rfl rfl
theorem dr_cX17_back_72 : decode cX17_back 72 = .ok (.aload_n 1, 1) := by decide +kernel
theorem dr_cX17_back_73 : decode cX17_back 73 = .ok (.getfield 79, 3) := by decide +kernel
theorem wr_9_190 : (Jvm.Cond.fieldLink "SpillForgeModel" (79 : Nat) "SpillForgeModel$Row" "b" "I") ∈ gw := gw_9 190 rfl rfl
theorem dr_cX17_back_76 : decode cX17_back 76 = .ok (.invokestatic 67, 3) := by decide +kernel
theorem wr_10_189 : (Jvm.Cond.methodLink "SpillForgeModel" (67 : Nat) ({ cls := "SpillForgeModel", name := "set", desc := "([JI)V" } : Jvm.MethodName)) ∈ gw := gw_10 189 rfl rfl
theorem wr_10_191 : (Jvm.Cond.code ({ cls := "SpillForgeModel", name := "set", desc := "([JI)V" } : Jvm.MethodName) prog_14_method_3_code (2 : Nat) (Option.none : Option Jvm.ClassFile.FieldType)) ∈ gw := gw_10 191 rfl rfl
theorem wr_10_190 : (Jvm.Cond.static ({ cls := "SpillForgeModel", name := "set", desc := "([JI)V" } : Jvm.MethodName)) ∈ gw := gw_10 190 rfl rfl
theorem dr_cX17_back_50 : decode cX17_back 50 = .ok (.aload_n 0, 1) := by decide +kernel
theorem dr_cX17_back_51 : decode cX17_back 51 = .ok (.getfield 59, 3) := by decide +kernel
theorem dr_cX17_back_54 : decode cX17_back 54 = .ok (.aload_n 1, 1) := by decide +kernel
theorem dr_cX17_back_55 : decode cX17_back 55 = .ok (.getfield 73, 3) := by decide +kernel
theorem wr_9_186 : (Jvm.Cond.fieldLink "SpillForgeModel" (73 : Nat) "SpillForgeModel$Row" "a" "I") ∈ gw := gw_9 186 rfl rfl
theorem dr_cX17_back_58 : decode cX17_back 58 = .ok (.invokestatic 67, 3) := by decide +kernel
theorem dr_cX17_back_22 : decode cX17_back 22 = .ok (.aload_n 1, 1) := by decide +kernel
theorem dr_cX17_back_23 : decode cX17_back 23 = .ok (.getfield 39, 3) := by decide +kernel
theorem dr_cX17_back_26 : decode cX17_back 26 = .ok (.bipush 21, 2) := by decide +kernel
theorem dr_cX17_back_28 : decode cX17_back 28 = .ok (.if_icmp .ne 14, 3) := by decide +kernel
theorem dr_cX17_back_42 : decode cX17_back 42 = .ok (.return_, 1) := by decide +kernel
theorem dr_cX17_back_31 : decode cX17_back 31 = .ok (.aload_n 0, 1) := by decide +kernel
theorem dr_cX17_back_32 : decode cX17_back 32 = .ok (.getfield 59, 3) := by decide +kernel
theorem dr_cX17_back_35 : decode cX17_back 35 = .ok (.aload_n 1, 1) := by decide +kernel
theorem dr_cX17_back_36 : decode cX17_back 36 = .ok (.getfield 45, 3) := by decide +kernel
theorem dr_cX17_back_39 : decode cX17_back 39 = .ok (.invokestatic 67, 3) := by decide +kernel
theorem dr_cX17_back_10 : decode cX17_back 10 = .ok (.aload_n 0, 1) := by decide +kernel
theorem dr_cX17_back_11 : decode cX17_back 11 = .ok (.getfield 59, 3) := by decide +kernel
theorem dr_cX17_back_14 : decode cX17_back 14 = .ok (.iload_n 3, 1) := by decide +kernel
theorem dr_cX17_back_15 : decode cX17_back 15 = .ok (.invokestatic 63, 3) := by decide +kernel
theorem wr_10_185 : (Jvm.Cond.methodLink "SpillForgeModel" (63 : Nat) ({ cls := "SpillForgeModel", name := "clear", desc := "([JI)V" } : Jvm.MethodName)) ∈ gw := gw_10 185 rfl rfl
theorem wr_10_187 : (Jvm.Cond.code ({ cls := "SpillForgeModel", name := "clear", desc := "([JI)V" } : Jvm.MethodName) prog_14_method_4_code (2 : Nat) (Option.none : Option Jvm.ClassFile.FieldType)) ∈ gw := gw_10 187 rfl rfl
theorem wr_10_186 : (Jvm.Cond.static ({ cls := "SpillForgeModel", name := "clear", desc := "([JI)V" } : Jvm.MethodName)) ∈ gw := gw_10 186 rfl rfl
theorem dr_cX17_load_0 : decode cX17_load 0 = .ok (.aload_n 0, 1) := by decide +kernel
theorem dr_cX17_load_1 : decode cX17_load 1 = .ok (.getfield 231, 3) := by decide +kernel
theorem wr_7_88 : (Jvm.Cond.fieldLink "SpillForgeModel" (231 : Nat) "SpillForgeModel" "temporaries" "I") ∈ gw := gw_7 88 rfl rfl
theorem dr_cX17_load_4 : decode cX17_load 4 = .ok (.sipush 2000, 3) := by decide +kernel
theorem dr_cX17_load_7 : decode cX17_load 7 = .ok (.if_icmp .ne 5, 3) := by decide +kernel
theorem dr_cX17_load_12 : decode cX17_load 12 = .ok (.aload_n 1, 1) := by decide +kernel
theorem dr_cX17_load_13 : decode cX17_load 13 = .ok (.invokevirtual 177, 3) := by decide +kernel
theorem wr_10_206 : (Jvm.Cond.methodLink "SpillForgeModel" (177 : Nat) ({ cls := "SpillForgeModel$Code", name := "row", desc := "()LSpillForgeModel$Row;" } : Jvm.MethodName)) ∈ gw := gw_10 206 rfl rfl
theorem wr_1_15 : (Jvm.Cond.initialized "SpillForgeModel$Code") ∈ gw := gw_1 15 rfl rfl
theorem wr_10_82 : (Jvm.Cond.code ({ cls := "SpillForgeModel$Code", name := "row", desc := "()LSpillForgeModel$Row;" } : Jvm.MethodName) prog_16_method_4_code (2 : Nat) (Option.some (Jvm.ClassFile.FieldType.object "SpillForgeModel$Row"))) ∈ gw := gw_10 82 rfl rfl
theorem wr_10_80 : (Jvm.Cond.instanceMethod ({ cls := "SpillForgeModel$Code", name := "row", desc := "()LSpillForgeModel$Row;" } : Jvm.MethodName)) ∈ gw := gw_10 80 rfl rfl
theorem wr_10_81 : (Jvm.Cond.selects "SpillForgeModel$Code" ({ cls := "SpillForgeModel$Code", name := "row", desc := "()LSpillForgeModel$Row;" } : Jvm.MethodName) ({ cls := "SpillForgeModel$Code", name := "row", desc := "()LSpillForgeModel$Row;" } : Jvm.MethodName)) ∈ gw := gw_10 81 rfl rfl
theorem dr_cX17_load_16 : decode cX17_load 16 = .ok (.astore 5, 2) := by decide +kernel
theorem dr_cX17_load_18 : decode cX17_load 18 = .ok (.aload 5, 2) := by decide +kernel
theorem dr_cX17_load_20 : decode cX17_load 20 = .ok (.bipush 21, 2) := by decide +kernel
theorem dr_cX17_load_22 : decode cX17_load 22 = .ok (.putfield 39, 3) := by decide +kernel
theorem dr_cX17_load_25 : decode cX17_load 25 = .ok (.aload 5, 2) := by decide +kernel
theorem dr_cX17_load_27 : decode cX17_load 27 = .ok (.aload_n 0, 1) := by decide +kernel
theorem dr_cX17_load_28 : decode cX17_load 28 = .ok (.getfield 231, 3) := by decide +kernel
theorem dr_cX17_load_31 : decode cX17_load 31 = .ok (.putfield 52, 3) := by decide +kernel
theorem dr_cX17_load_34 : decode cX17_load 34 = .ok (.aload 5, 2) := by decide +kernel
theorem dr_cX17_load_36 : decode cX17_load 36 = .ok (.iload 4, 2) := by decide +kernel
theorem dr_cX17_load_38 : decode cX17_load 38 = .ok (.putfield 45, 3) := by decide +kernel
theorem dr_cX17_load_41 : decode cX17_load 41 = .ok (.aload_n 2, 1) := by decide +kernel
theorem dr_cX17_load_42 : decode cX17_load 42 = .ok (.getfield 117, 3) := by decide +kernel
theorem wr_9_220 : (Jvm.Cond.fieldLink "SpillForgeModel" (117 : Nat) "SpillForgeModel$Block" "rows" "Ljava/util/ArrayList;") ∈ gw := gw_9 220 rfl rfl
theorem dr_cX17_load_45 : decode cX17_load 45 = .ok (.iload_n 3, 1) := by decide +kernel
theorem dr_cX17_load_46 : decode cX17_load 46 = .ok (.aload 5, 2) := by decide +kernel
theorem dr_cX17_load_48 : decode cX17_load 48 = .ok (.invokevirtual 181, 3) := by decide +kernel
theorem wr_10_207 : (Jvm.Cond.methodLink "SpillForgeModel" (181 : Nat) ({ cls := "java/util/ArrayList", name := "add", desc := "(ILjava/lang/Object;)V" } : Jvm.MethodName)) ∈ gw := gw_10 207 rfl rfl
theorem wr_10_210 : (Jvm.Cond.code ({ cls := "java/util/ArrayList", name := "add", desc := "(ILjava/lang/Object;)V" } : Jvm.MethodName) prog_43_method_26_code (5 : Nat) (Option.none : Option Jvm.ClassFile.FieldType)) ∈ gw := gw_10 210 rfl rfl
theorem wr_10_208 : (Jvm.Cond.instanceMethod ({ cls := "java/util/ArrayList", name := "add", desc := "(ILjava/lang/Object;)V" } : Jvm.MethodName)) ∈ gw := gw_10 208 rfl rfl
theorem wr_10_209 : (Jvm.Cond.selects "java/util/ArrayList" ({ cls := "java/util/ArrayList", name := "add", desc := "(ILjava/lang/Object;)V" } : Jvm.MethodName) ({ cls := "java/util/ArrayList", name := "add", desc := "(ILjava/lang/Object;)V" } : Jvm.MethodName)) ∈ gw := gw_10 209 rfl rfl
theorem dr_cX17_load_51 : decode cX17_load 51 = .ok (.aload_n 0, 1) := by decide +kernel
theorem dr_cX17_load_52 : decode cX17_load 52 = .ok (.dup, 1) := by decide +kernel
theorem dr_cX17_load_53 : decode cX17_load 53 = .ok (.getfield 231, 3) := by decide +kernel
theorem dr_cX17_load_56 : decode cX17_load 56 = .ok (.iconst 1, 1) := by decide +kernel
theorem dr_cX17_load_57 : decode cX17_load 57 = .ok (.iadd, 1) := by decide +kernel
theorem dr_cX17_load_58 : decode cX17_load 58 = .ok (.putfield 231, 3) := by decide +kernel
theorem dr_cX17_load_61 : decode cX17_load 61 = .ok (.aload 5, 2) := by decide +kernel
theorem dr_cX17_load_63 : decode cX17_load 63 = .ok (.getfield 52, 3) := by decide +kernel
theorem dr_cX17_load_66 : decode cX17_load 66 = .ok (.ireturn, 1) := by decide +kernel
theorem dr_cX17_load_10 : decode cX17_load 10 = .ok (.iconst (-1), 1) := by decide +kernel
theorem dr_cX17_load_11 : decode cX17_load 11 = .ok (.ireturn, 1) := by decide +kernel
abbrev ky_3899_SpillForgeModel_back : gKey := (cX17_back, 4, "SpillForgeModel", none, [], "back", fun _ _ => True)
def pt_3899_SpillForgeModel_back (D : va_G) (I : FieldType → ClassId) (γ el : Nat → Nat → Nat) (P3894 : List Nat) (F3895 : Nat → va_E) (q3896 : Nat) (q3897 : Nat) (p3898 : Int32) : Option Value → va_W → Nat → Nat → Prop := fun r w dc ds => ∃ (F4338 : Nat → va_E), r = none ∧ w = va_pl P3894 F4338 ∧ RS D I P3894 F4338 γ el ∧ rStr γ [] F3895 F4338 ∧ dc ≤ 0 ∧ ds ≤ 0
set_option maxRecDepth 100000 in
set_option maxHeartbeats 4000000 in
theorem ct_3899_SpillForgeModel_back (l : Launch) (hl0 : l.stackTraces = false) (D : va_G) (I : FieldType → ClassId) (γ el : Nat → Nat → Nat) (P3894 : List Nat) (F3895 : Nat → va_E) (q3896 : Nat) (q3897 : Nat) (p3898 : Int32) (hT : RS D I P3894 F3895 γ el) (htq3896 : rKd γ q3896 10) (htq3897 : rKd γ q3897 1) (bp3898 : gB p3898 0 1) : CtA (gV D I) l yX17_back cX17_back 4 none 2 41 0 0 [.ref q3896, .ref q3897, .int p3898] (va_pl P3894 F3895) (pt_3899_SpillForgeModel_back D I γ el P3894 F3895 q3896 q3897 p3898) gNA := by
  refine CtA_of hl0 (by decide) (Nat.le_of_ble_eq_true rfl) ?_
  refine G_aload_n 1 dr_cX17_back_0 rfl ?_
  refine G_iload_n 2 dr_cX17_back_1 rfl ?_
  have hm3900 : q3897 ∈ P3894 := RS_m hT htq3897 (by decide)
  obtain ⟨p3902, p3903, p3904, p3905, p3906, p3907, p3908, he3901, bp3902, bp3903, bp3906, bp3907, bp3908, r3909, r3910, r3911, r3912⟩ := show rk_1 γ q3897 (F3895 q3897) from RS_o hT htq3897
  have bp3904 := gB_any p3904
  have bp3905 := gB_any p3905
  refine Gw_callS (As := [.ref q3897, .int p3898]) (gV_ok D I) (cp_1778_SpillForgeModel_setOf l hl0 D I P3894 F3895 q3897 p3898 p3902 p3903 p3904 p3905 p3906 p3907 p3908 hm3900 he3901 bp3898 bp3902 bp3903 bp3906 bp3907 bp3908) dr_cX17_back_2 ⟨wr_10_178, wr_1_14, wr_10_180, by decide, rfl, (Nat.le_of_ble_eq_true rfl), (Nat.le_of_ble_eq_true rfl)⟩ wr_10_179 (show 0 + 0 ≤ 0 by first | omega | decide) (show 0 + 0 ≤ 0 by first | omega | decide) (Nat.le_of_ble_eq_true rfl) (fun r3916 w3917 dc3913 ds3914 hp3915 => ?_) (fun _ _ _ _ _ z => z.elim)
  obtain ⟨o3918, rfl, rfl, hdc, hds, bo3918⟩ := hp3915
  change G _ _ _ _ _ _ _ (.int o3918 :: _) _ _ _
  refine G_widen (cs' := 0) (sl' := 0) (by omega) (by omega) ?_
  refine G_istore_n (L' := [(3, .int o3918), (0, .ref q3896), (1, .ref q3897), (2, .int p3898)]) dr_cX17_back_5 (Nat.le_of_ble_eq_true rfl) rfl ?_
  refine G_iload_n 0 dr_cX17_back_6 rfl ?_
  refine G_if_lt 18 dr_cX17_back_7 (by decide +kernel) (fun hc3919 => ?_) (fun hc3919 => ?_)
  · have r3920 : o3918.toInt < 0 := gj_lt hc3919 (show Int32.toInt 0 = 0 by decide)
    have bo3918' : gB o3918 (-1) (-1) := ⟨by omega, by omega⟩
    refine G_iload_n 3 dr_cX17_back_18 rfl ?_
    refine G_if_eq 43 dr_cX17_back_19 (by decide +kernel) (fun hc3921 => ?_) (fun hc3921 => ?_)
    · have r3922 : p3898.toInt = 0 := gj_eq hc3921 (show Int32.toInt 0 = 0 by decide)
      have bp3898' : gB p3898 0 0 := ⟨by omega, by omega⟩
      refine G_aload_n 2 dr_cX17_back_43 rfl ?_
      refine Gw_callV (As := []) (gV_ok D I) (cp_1669_Row_usesA l hl0 D I P3894 F3895 q3897 p3902 p3903 p3904 p3905 p3906 p3907 p3908 hm3900 he3901 bp3902 bp3903 bp3906 bp3907 bp3908) dr_cX17_back_44 ⟨wr_10_192, wr_1_39, wr_10_195, by decide, rfl, (Nat.le_of_ble_eq_true rfl), (Nat.le_of_ble_eq_true rfl)⟩ wr_10_193 wr_10_194 hm3900 he3901 rfl (show 0 + 0 ≤ 0 by first | omega | decide) (show 0 + 0 ≤ 0 by first | omega | decide) (Nat.le_of_ble_eq_true rfl) (fun r3926 w3927 dc3923 ds3924 hp3925 => ?_) (fun _ _ _ _ _ z => z.elim)
      obtain ⟨o3928, rfl, rfl, hdc, hds, bo3928, x3929⟩ := hp3925
      change G _ _ _ _ _ _ _ (.int o3928 :: _) _ _ _
      refine G_widen (cs' := 0) (sl' := 0) (by omega) (by omega) ?_
      refine G_if_eq 61 dr_cX17_back_47 (by decide +kernel) (fun hc3930 => ?_) (fun hc3930 => ?_)
      · have r3931 : o3928.toInt = 0 := gj_eq hc3930 (show Int32.toInt 0 = 0 by decide)
        have bo3928' : gB o3928 0 0 := ⟨by omega, by omega⟩
        refine G_aload_n 2 dr_cX17_back_61 rfl ?_
        refine Gw_callV (As := []) (gV_ok D I) (cp_1693_Row_usesB l hl0 D I P3894 F3895 q3897 p3902 p3903 p3904 p3905 p3906 p3907 p3908 hm3900 he3901 bp3902 bp3903 bp3906 bp3907 bp3908) dr_cX17_back_62 ⟨wr_10_196, wr_1_39, wr_10_199, by decide, rfl, (Nat.le_of_ble_eq_true rfl), (Nat.le_of_ble_eq_true rfl)⟩ wr_10_197 wr_10_198 hm3900 he3901 rfl (show 0 + 0 ≤ 0 by first | omega | decide) (show 0 + 0 ≤ 0 by first | omega | decide) (Nat.le_of_ble_eq_true rfl) (fun r3935 w3936 dc3932 ds3933 hp3934 => ?_) (fun _ _ _ _ _ z => z.elim)
        obtain ⟨o3937, rfl, rfl, hdc, hds, bo3937, x3938⟩ := hp3934
        change G _ _ _ _ _ _ _ (.int o3937 :: _) _ _ _
        refine G_widen (cs' := 0) (sl' := 0) (by omega) (by omega) ?_
        refine G_if_eq 79 dr_cX17_back_65 (by decide +kernel) (fun hc3939 => ?_) (fun hc3939 => ?_)
        · have r3940 : o3937.toInt = 0 := gj_eq hc3939 (show Int32.toInt 0 = 0 by decide)
          have bo3937' : gB o3937 0 0 := ⟨by omega, by omega⟩
          exact G_vretA dr_cX17_back_79 rfl (Nat.le_of_ble_eq_true rfl) (Nat.le_of_ble_eq_true rfl) ⟨F3895, rfl, rfl, hT, (rStr_rf (γ := γ) (W := []) (F := F3895)), (Nat.le_of_ble_eq_true rfl), (Nat.le_of_ble_eq_true rfl)⟩
        · have r3941 : o3937.toInt ≠ 0 := gj_neq hc3939 (show Int32.toInt 0 = 0 by decide)
          have bo3937' : gB o3937 1 1 := ⟨by omega, by omega⟩
          refine G_aload_n 1 dr_cX17_back_68 rfl ?_
          have hm3942 : q3896 ∈ P3894 := RS_m hT htq3896 (by decide)
          obtain ⟨q3944, q3945, p3946, p3947, p3948, p3949, p3950, p3951, p3952, p3953, p3954, p3955, p3956, p3957, p3958, p3959, p3960, he3943, hB3987, ht3961, ht3962, ht3963, ht3964, ht3965, ht3966, ht3967, ht3968, ht3969, ht3970, ht3971, ht3972, ht3973, ht3974, ht3975, ht3976, ht3977, ht3978, ht3979, ht3980, ht3981, ht3982, ht3983, ht3984, hB3988⟩ := show rk_10 γ (F3895 q3896) from RS_o hT htq3896
          refine Gp_get 2 hm3942 he3943 dr_cX17_back_69 (gk_X17 D I) (Nat.le_of_ble_eq_true rfl) wr_7_76 rfl ?_
          refine G_aload_n 2 dr_cX17_back_72 rfl ?_
          refine Gp_get 3 hm3900 he3901 dr_cX17_back_73 (gk_X15 D I) (Nat.le_of_ble_eq_true rfl) wr_9_190 rfl ?_
          have hm3989 : (γ 9 2) ∈ P3894 := RS_m hT ht3965 (by decide)
          obtain ⟨f3991, he3990, wf3991⟩ := show rk_35 I (F3895 (γ 9 2)) from RS_o hT ht3965
          refine Gw_callS (As := [.ref (γ 9 2), .int p3905]) (gV_ok D I) (cp_1853_SpillForgeModel_set l hl0 D I P3894 F3895 (γ 9 2) p3905 f3991 hm3989 he3990 ⟨by omega, by omega⟩ wf3991) dr_cX17_back_76 ⟨wr_10_189, wr_1_14, wr_10_191, by decide, rfl, (Nat.le_of_ble_eq_true rfl), (Nat.le_of_ble_eq_true rfl)⟩ wr_10_190 (show 0 + 0 ≤ 0 by first | omega | decide) (show 0 + 0 ≤ 0 by first | omega | decide) (Nat.le_of_ble_eq_true rfl) (fun r3995 w3996 dc3992 ds3993 hp3994 => ?_) (fun _ _ _ _ _ z => z.elim)
          obtain ⟨F3999, f3997, rfl, rfl, hfr4001, he4002, hdc, hds, x3998⟩ := hp3994
          have he4003 : F3999 q3897 = .inr (20, [.int p3902, .int p3903, .int p3904, .int p3905, .int p3906, .int p3907, .int p3908]) := (hfr4001 q3897 hm3900 (nm_c (rn_oa he3901 he3990) nm_n)).trans he3901
          have he4004 : F3999 q3896 = .inr (22, [.ref (γ 9 0), .ref (γ 9 1), .ref (γ 9 2), .ref (γ 9 3), .ref (γ 9 4), .ref (γ 9 5), .ref (γ 9 6), .ref (γ 9 7), .ref (γ 9 8), .int p3946, .int p3947, .int p3948, .int p3949, .int p3950, .int p3951, .ref (γ 9 15), .ref (γ 9 16), .ref (γ 9 17), .ref (γ 9 18), .ref (γ 9 19), .ref (γ 9 20), .ref (γ 9 21), .ref (γ 9 22), .int p3952, .int p3953, .int p3954, .int p3955, .int p3956, .ref q3944, .ref (γ 9 29), .int p3957, .ref (γ 9 31), .int p3958, .int p3959, .int p3960, .ref q3945]) := (hfr4001 q3896 hm3942 (nm_c (rn_oa he3943 he3990) nm_n)).trans he3943
          have hfr4005 : rFr [(γ 9 2)] P3894 F3895 F3999 := rFr_call (rSub_rf (P := P3894)) (rFr_rf (W := []) (P := P3894) (F := F3895)) hfr4001 (fun b hb hn => ⟨nm_n, (nm_c (fun e => hn (e ▸ List.mem_cons_self)) nm_n)⟩)
          change G _ _ _ _ _ _ _ _ _ _ _
          refine G_widen (cs' := 0) (sl' := 0) (by omega) (by omega) ?_
          have hT4006 : RS D I P3894 F3999 γ el := RS_fr hT hfr4005 ht3965 (by decide) ⟨f3997, he4002, x3998⟩
          have hs4007 : rStr γ [] F3895 F3999 := rStr_fr hT (rStr_rf (γ := γ) (W := []) (F := F3895)) hfr4005 ht3965 (by decide)
          exact G_vretA dr_cX17_back_79 rfl (Nat.le_of_ble_eq_true rfl) (Nat.le_of_ble_eq_true rfl) ⟨F3999, rfl, rfl, hT4006, hs4007, (Nat.le_of_ble_eq_true rfl), (Nat.le_of_ble_eq_true rfl)⟩
      · have r4008 : o3928.toInt ≠ 0 := gj_neq hc3930 (show Int32.toInt 0 = 0 by decide)
        have bo3928' : gB o3928 1 1 := ⟨by omega, by omega⟩
        refine G_aload_n 1 dr_cX17_back_50 rfl ?_
        have hm4009 : q3896 ∈ P3894 := RS_m hT htq3896 (by decide)
        obtain ⟨q4011, q4012, p4013, p4014, p4015, p4016, p4017, p4018, p4019, p4020, p4021, p4022, p4023, p4024, p4025, p4026, p4027, he4010, hB4054, ht4028, ht4029, ht4030, ht4031, ht4032, ht4033, ht4034, ht4035, ht4036, ht4037, ht4038, ht4039, ht4040, ht4041, ht4042, ht4043, ht4044, ht4045, ht4046, ht4047, ht4048, ht4049, ht4050, ht4051, hB4055⟩ := show rk_10 γ (F3895 q3896) from RS_o hT htq3896
        refine Gp_get 2 hm4009 he4010 dr_cX17_back_51 (gk_X17 D I) (Nat.le_of_ble_eq_true rfl) wr_7_76 rfl ?_
        refine G_aload_n 2 dr_cX17_back_54 rfl ?_
        refine Gp_get 2 hm3900 he3901 dr_cX17_back_55 (gk_X15 D I) (Nat.le_of_ble_eq_true rfl) wr_9_186 rfl ?_
        have hm4056 : (γ 9 2) ∈ P3894 := RS_m hT ht4032 (by decide)
        obtain ⟨f4058, he4057, wf4058⟩ := show rk_35 I (F3895 (γ 9 2)) from RS_o hT ht4032
        refine Gw_callS (As := [.ref (γ 9 2), .int p3904]) (gV_ok D I) (cp_1853_SpillForgeModel_set l hl0 D I P3894 F3895 (γ 9 2) p3904 f4058 hm4056 he4057 ⟨by omega, by omega⟩ wf4058) dr_cX17_back_58 ⟨wr_10_189, wr_1_14, wr_10_191, by decide, rfl, (Nat.le_of_ble_eq_true rfl), (Nat.le_of_ble_eq_true rfl)⟩ wr_10_190 (show 0 + 0 ≤ 0 by first | omega | decide) (show 0 + 0 ≤ 0 by first | omega | decide) (Nat.le_of_ble_eq_true rfl) (fun r4062 w4063 dc4059 ds4060 hp4061 => ?_) (fun _ _ _ _ _ z => z.elim)
        obtain ⟨F4066, f4064, rfl, rfl, hfr4068, he4069, hdc, hds, x4065⟩ := hp4061
        have he4070 : F4066 q3897 = .inr (20, [.int p3902, .int p3903, .int p3904, .int p3905, .int p3906, .int p3907, .int p3908]) := (hfr4068 q3897 hm3900 (nm_c (rn_oa he3901 he4057) nm_n)).trans he3901
        have he4071 : F4066 q3896 = .inr (22, [.ref (γ 9 0), .ref (γ 9 1), .ref (γ 9 2), .ref (γ 9 3), .ref (γ 9 4), .ref (γ 9 5), .ref (γ 9 6), .ref (γ 9 7), .ref (γ 9 8), .int p4013, .int p4014, .int p4015, .int p4016, .int p4017, .int p4018, .ref (γ 9 15), .ref (γ 9 16), .ref (γ 9 17), .ref (γ 9 18), .ref (γ 9 19), .ref (γ 9 20), .ref (γ 9 21), .ref (γ 9 22), .int p4019, .int p4020, .int p4021, .int p4022, .int p4023, .ref q4011, .ref (γ 9 29), .int p4024, .ref (γ 9 31), .int p4025, .int p4026, .int p4027, .ref q4012]) := (hfr4068 q3896 hm4009 (nm_c (rn_oa he4010 he4057) nm_n)).trans he4010
        have hfr4072 : rFr [(γ 9 2)] P3894 F3895 F4066 := rFr_call (rSub_rf (P := P3894)) (rFr_rf (W := []) (P := P3894) (F := F3895)) hfr4068 (fun b hb hn => ⟨nm_n, (nm_c (fun e => hn (e ▸ List.mem_cons_self)) nm_n)⟩)
        change G _ _ _ _ _ _ _ _ _ _ _
        refine G_widen (cs' := 0) (sl' := 0) (by omega) (by omega) ?_
        have hT4073 : RS D I P3894 F4066 γ el := RS_fr hT hfr4072 ht4032 (by decide) ⟨f4064, he4069, x4065⟩
        have hs4074 : rStr γ [] F3895 F4066 := rStr_fr hT (rStr_rf (γ := γ) (W := []) (F := F3895)) hfr4072 ht4032 (by decide)
        refine G_aload_n 2 dr_cX17_back_61 rfl ?_
        refine Gw_callV (As := []) (gV_ok D I) (cp_1693_Row_usesB l hl0 D I P3894 F4066 q3897 p3902 p3903 p3904 p3905 p3906 p3907 p3908 hm3900 he4070 bp3902 bp3903 bp3906 bp3907 bp3908) dr_cX17_back_62 ⟨wr_10_196, wr_1_39, wr_10_199, by decide, rfl, (Nat.le_of_ble_eq_true rfl), (Nat.le_of_ble_eq_true rfl)⟩ wr_10_197 wr_10_198 hm3900 he4070 rfl (show 0 + 0 ≤ 0 by first | omega | decide) (show 0 + 0 ≤ 0 by first | omega | decide) (Nat.le_of_ble_eq_true rfl) (fun r4078 w4079 dc4075 ds4076 hp4077 => ?_) (fun _ _ _ _ _ z => z.elim)
        obtain ⟨o4080, rfl, rfl, hdc, hds, bo4080, x4081⟩ := hp4077
        change G _ _ _ _ _ _ _ (.int o4080 :: _) _ _ _
        refine G_widen (cs' := 0) (sl' := 0) (by omega) (by omega) ?_
        refine G_if_eq 79 dr_cX17_back_65 (by decide +kernel) (fun hc4082 => ?_) (fun hc4082 => ?_)
        · have r4083 : o4080.toInt = 0 := gj_eq hc4082 (show Int32.toInt 0 = 0 by decide)
          have bo4080' : gB o4080 0 0 := ⟨by omega, by omega⟩
          exact G_vretA dr_cX17_back_79 rfl (Nat.le_of_ble_eq_true rfl) (Nat.le_of_ble_eq_true rfl) ⟨F4066, rfl, rfl, hT4073, hs4074, (Nat.le_of_ble_eq_true rfl), (Nat.le_of_ble_eq_true rfl)⟩
        · have r4084 : o4080.toInt ≠ 0 := gj_neq hc4082 (show Int32.toInt 0 = 0 by decide)
          have bo4080' : gB o4080 1 1 := ⟨by omega, by omega⟩
          refine G_aload_n 1 dr_cX17_back_68 rfl ?_
          refine Gp_get 2 hm4009 he4071 dr_cX17_back_69 (gk_X17 D I) (Nat.le_of_ble_eq_true rfl) wr_7_76 rfl ?_
          refine G_aload_n 2 dr_cX17_back_72 rfl ?_
          refine Gp_get 3 hm3900 he4070 dr_cX17_back_73 (gk_X15 D I) (Nat.le_of_ble_eq_true rfl) wr_9_190 rfl ?_
          refine Gw_callS (As := [.ref (γ 9 2), .int p3905]) (gV_ok D I) (cp_1853_SpillForgeModel_set l hl0 D I P3894 F4066 (γ 9 2) p3905 f4064 hm4056 he4069 ⟨by omega, by omega⟩ x4065) dr_cX17_back_76 ⟨wr_10_189, wr_1_14, wr_10_191, by decide, rfl, (Nat.le_of_ble_eq_true rfl), (Nat.le_of_ble_eq_true rfl)⟩ wr_10_190 (show 0 + 0 ≤ 0 by first | omega | decide) (show 0 + 0 ≤ 0 by first | omega | decide) (Nat.le_of_ble_eq_true rfl) (fun r4088 w4089 dc4085 ds4086 hp4087 => ?_) (fun _ _ _ _ _ z => z.elim)
          obtain ⟨F4092, f4090, rfl, rfl, hfr4094, he4095, hdc, hds, x4091⟩ := hp4087
          have he4096 : F4092 q3897 = .inr (20, [.int p3902, .int p3903, .int p3904, .int p3905, .int p3906, .int p3907, .int p3908]) := (hfr4094 q3897 hm3900 (nm_c (rn_oa he4070 he4069) nm_n)).trans he4070
          have he4097 : F4092 q3896 = .inr (22, [.ref (γ 9 0), .ref (γ 9 1), .ref (γ 9 2), .ref (γ 9 3), .ref (γ 9 4), .ref (γ 9 5), .ref (γ 9 6), .ref (γ 9 7), .ref (γ 9 8), .int p4013, .int p4014, .int p4015, .int p4016, .int p4017, .int p4018, .ref (γ 9 15), .ref (γ 9 16), .ref (γ 9 17), .ref (γ 9 18), .ref (γ 9 19), .ref (γ 9 20), .ref (γ 9 21), .ref (γ 9 22), .int p4019, .int p4020, .int p4021, .int p4022, .int p4023, .ref q4011, .ref (γ 9 29), .int p4024, .ref (γ 9 31), .int p4025, .int p4026, .int p4027, .ref q4012]) := (hfr4094 q3896 hm4009 (nm_c (rn_oa he4071 he4069) nm_n)).trans he4071
          have hfr4098 : rFr [(γ 9 2)] P3894 F4066 F4092 := rFr_call (rSub_rf (P := P3894)) (rFr_rf (W := []) (P := P3894) (F := F4066)) hfr4094 (fun b hb hn => ⟨nm_n, (nm_c (fun e => hn (e ▸ List.mem_cons_self)) nm_n)⟩)
          change G _ _ _ _ _ _ _ _ _ _ _
          refine G_widen (cs' := 0) (sl' := 0) (by omega) (by omega) ?_
          have hT4099 : RS D I P3894 F4092 γ el := RS_fr hT4073 hfr4098 ht4032 (by decide) ⟨f4090, he4095, x4091⟩
          have hs4100 : rStr γ [] F3895 F4092 := rStr_fr hT4073 hs4074 hfr4098 ht4032 (by decide)
          exact G_vretA dr_cX17_back_79 rfl (Nat.le_of_ble_eq_true rfl) (Nat.le_of_ble_eq_true rfl) ⟨F4092, rfl, rfl, hT4099, hs4100, (Nat.le_of_ble_eq_true rfl), (Nat.le_of_ble_eq_true rfl)⟩
    · have r4101 : p3898.toInt ≠ 0 := gj_neq hc3921 (show Int32.toInt 0 = 0 by decide)
      have bp3898' : gB p3898 1 1 := ⟨by omega, by omega⟩
      refine G_aload_n 2 dr_cX17_back_22 rfl ?_
      refine Gp_get 0 hm3900 he3901 dr_cX17_back_23 (gk_X15 D I) (Nat.le_of_ble_eq_true rfl) wr_9_177 rfl ?_
      refine G_bipush 21 dr_cX17_back_26 (by decide +kernel) ?_
      refine G_icmp_ne 42 dr_cX17_back_28 (by decide +kernel) (fun hc4102 => ?_) (fun hc4102 => ?_)
      · have r4103 : p3902.toInt ≠ 21 := gj_neq hc4102 (show Int32.toInt 21 = 21 by decide)
        exact G_vretA dr_cX17_back_42 rfl (Nat.le_of_ble_eq_true rfl) (Nat.le_of_ble_eq_true rfl) ⟨F3895, rfl, rfl, hT, (rStr_rf (γ := γ) (W := []) (F := F3895)), (Nat.le_of_ble_eq_true rfl), (Nat.le_of_ble_eq_true rfl)⟩
      · have r4104 : p3902.toInt = 21 := gj_eq hc4102 (show Int32.toInt 21 = 21 by decide)
        have bp3902' : gB p3902 21 21 := ⟨by omega, by omega⟩
        refine G_aload_n 1 dr_cX17_back_31 rfl ?_
        have hm4105 : q3896 ∈ P3894 := RS_m hT htq3896 (by decide)
        obtain ⟨q4107, q4108, p4109, p4110, p4111, p4112, p4113, p4114, p4115, p4116, p4117, p4118, p4119, p4120, p4121, p4122, p4123, he4106, hB4150, ht4124, ht4125, ht4126, ht4127, ht4128, ht4129, ht4130, ht4131, ht4132, ht4133, ht4134, ht4135, ht4136, ht4137, ht4138, ht4139, ht4140, ht4141, ht4142, ht4143, ht4144, ht4145, ht4146, ht4147, hB4151⟩ := show rk_10 γ (F3895 q3896) from RS_o hT htq3896
        refine Gp_get 2 hm4105 he4106 dr_cX17_back_32 (gk_X17 D I) (Nat.le_of_ble_eq_true rfl) wr_7_76 rfl ?_
        refine G_aload_n 2 dr_cX17_back_35 rfl ?_
        refine Gp_get 4 hm3900 he3901 dr_cX17_back_36 (gk_X15 D I) (Nat.le_of_ble_eq_true rfl) wr_9_193 rfl ?_
        have hm4152 : (γ 9 2) ∈ P3894 := RS_m hT ht4128 (by decide)
        obtain ⟨f4154, he4153, wf4154⟩ := show rk_35 I (F3895 (γ 9 2)) from RS_o hT ht4128
        refine Gw_callS (As := [.ref (γ 9 2), .int p3906]) (gV_ok D I) (cp_1853_SpillForgeModel_set l hl0 D I P3894 F3895 (γ 9 2) p3906 f4154 hm4152 he4153 bp3906 wf4154) dr_cX17_back_39 ⟨wr_10_189, wr_1_14, wr_10_191, by decide, rfl, (Nat.le_of_ble_eq_true rfl), (Nat.le_of_ble_eq_true rfl)⟩ wr_10_190 (show 0 + 0 ≤ 0 by first | omega | decide) (show 0 + 0 ≤ 0 by first | omega | decide) (Nat.le_of_ble_eq_true rfl) (fun r4158 w4159 dc4155 ds4156 hp4157 => ?_) (fun _ _ _ _ _ z => z.elim)
        obtain ⟨F4162, f4160, rfl, rfl, hfr4164, he4165, hdc, hds, x4161⟩ := hp4157
        have he4166 : F4162 q3897 = .inr (20, [.int p3902, .int p3903, .int p3904, .int p3905, .int p3906, .int p3907, .int p3908]) := (hfr4164 q3897 hm3900 (nm_c (rn_oa he3901 he4153) nm_n)).trans he3901
        have he4167 : F4162 q3896 = .inr (22, [.ref (γ 9 0), .ref (γ 9 1), .ref (γ 9 2), .ref (γ 9 3), .ref (γ 9 4), .ref (γ 9 5), .ref (γ 9 6), .ref (γ 9 7), .ref (γ 9 8), .int p4109, .int p4110, .int p4111, .int p4112, .int p4113, .int p4114, .ref (γ 9 15), .ref (γ 9 16), .ref (γ 9 17), .ref (γ 9 18), .ref (γ 9 19), .ref (γ 9 20), .ref (γ 9 21), .ref (γ 9 22), .int p4115, .int p4116, .int p4117, .int p4118, .int p4119, .ref q4107, .ref (γ 9 29), .int p4120, .ref (γ 9 31), .int p4121, .int p4122, .int p4123, .ref q4108]) := (hfr4164 q3896 hm4105 (nm_c (rn_oa he4106 he4153) nm_n)).trans he4106
        have hfr4168 : rFr [(γ 9 2)] P3894 F3895 F4162 := rFr_call (rSub_rf (P := P3894)) (rFr_rf (W := []) (P := P3894) (F := F3895)) hfr4164 (fun b hb hn => ⟨nm_n, (nm_c (fun e => hn (e ▸ List.mem_cons_self)) nm_n)⟩)
        change G _ _ _ _ _ _ _ _ _ _ _
        refine G_widen (cs' := 0) (sl' := 0) (by omega) (by omega) ?_
        have hT4169 : RS D I P3894 F4162 γ el := RS_fr hT hfr4168 ht4128 (by decide) ⟨f4160, he4165, x4161⟩
        have hs4170 : rStr γ [] F3895 F4162 := rStr_fr hT (rStr_rf (γ := γ) (W := []) (F := F3895)) hfr4168 ht4128 (by decide)
        exact G_vretA dr_cX17_back_42 rfl (Nat.le_of_ble_eq_true rfl) (Nat.le_of_ble_eq_true rfl) ⟨F4162, rfl, rfl, hT4169, hs4170, (Nat.le_of_ble_eq_true rfl), (Nat.le_of_ble_eq_true rfl)⟩
  · have r4171 : 0 ≤ o3918.toInt := gj_nlt hc3919 (show Int32.toInt 0 = 0 by decide)
    have bo3918' : gB o3918 0 1999 := ⟨by omega, by omega⟩
    refine G_aload_n 1 dr_cX17_back_10 rfl ?_
    have hm4172 : q3896 ∈ P3894 := RS_m hT htq3896 (by decide)
    obtain ⟨q4174, q4175, p4176, p4177, p4178, p4179, p4180, p4181, p4182, p4183, p4184, p4185, p4186, p4187, p4188, p4189, p4190, he4173, hB4217, ht4191, ht4192, ht4193, ht4194, ht4195, ht4196, ht4197, ht4198, ht4199, ht4200, ht4201, ht4202, ht4203, ht4204, ht4205, ht4206, ht4207, ht4208, ht4209, ht4210, ht4211, ht4212, ht4213, ht4214, hB4218⟩ := show rk_10 γ (F3895 q3896) from RS_o hT htq3896
    refine Gp_get 2 hm4172 he4173 dr_cX17_back_11 (gk_X17 D I) (Nat.le_of_ble_eq_true rfl) wr_7_76 rfl ?_
    refine G_iload_n 0 dr_cX17_back_14 rfl ?_
    have hm4219 : (γ 9 2) ∈ P3894 := RS_m hT ht4195 (by decide)
    obtain ⟨f4221, he4220, wf4221⟩ := show rk_35 I (F3895 (γ 9 2)) from RS_o hT ht4195
    refine Gw_callS (As := [.ref (γ 9 2), .int o3918]) (gV_ok D I) (cp_1873_SpillForgeModel_clear l hl0 D I P3894 F3895 (γ 9 2) o3918 f4221 hm4219 he4220 bo3918' wf4221) dr_cX17_back_15 ⟨wr_10_185, wr_1_14, wr_10_187, by decide, rfl, (Nat.le_of_ble_eq_true rfl), (Nat.le_of_ble_eq_true rfl)⟩ wr_10_186 (show 0 + 0 ≤ 0 by first | omega | decide) (show 0 + 0 ≤ 0 by first | omega | decide) (Nat.le_of_ble_eq_true rfl) (fun r4225 w4226 dc4222 ds4223 hp4224 => ?_) (fun _ _ _ _ _ z => z.elim)
    obtain ⟨F4229, f4227, rfl, rfl, hfr4231, he4232, hdc, hds, x4228⟩ := hp4224
    have he4233 : F4229 q3897 = .inr (20, [.int p3902, .int p3903, .int p3904, .int p3905, .int p3906, .int p3907, .int p3908]) := (hfr4231 q3897 hm3900 (nm_c (rn_oa he3901 he4220) nm_n)).trans he3901
    have he4234 : F4229 q3896 = .inr (22, [.ref (γ 9 0), .ref (γ 9 1), .ref (γ 9 2), .ref (γ 9 3), .ref (γ 9 4), .ref (γ 9 5), .ref (γ 9 6), .ref (γ 9 7), .ref (γ 9 8), .int p4176, .int p4177, .int p4178, .int p4179, .int p4180, .int p4181, .ref (γ 9 15), .ref (γ 9 16), .ref (γ 9 17), .ref (γ 9 18), .ref (γ 9 19), .ref (γ 9 20), .ref (γ 9 21), .ref (γ 9 22), .int p4182, .int p4183, .int p4184, .int p4185, .int p4186, .ref q4174, .ref (γ 9 29), .int p4187, .ref (γ 9 31), .int p4188, .int p4189, .int p4190, .ref q4175]) := (hfr4231 q3896 hm4172 (nm_c (rn_oa he4173 he4220) nm_n)).trans he4173
    have hfr4235 : rFr [(γ 9 2)] P3894 F3895 F4229 := rFr_call (rSub_rf (P := P3894)) (rFr_rf (W := []) (P := P3894) (F := F3895)) hfr4231 (fun b hb hn => ⟨nm_n, (nm_c (fun e => hn (e ▸ List.mem_cons_self)) nm_n)⟩)
    change G _ _ _ _ _ _ _ _ _ _ _
    refine G_widen (cs' := 0) (sl' := 0) (by omega) (by omega) ?_
    have hT4236 : RS D I P3894 F4229 γ el := RS_fr hT hfr4235 ht4195 (by decide) ⟨f4227, he4232, x4228⟩
    have hs4237 : rStr γ [] F3895 F4229 := rStr_fr hT (rStr_rf (γ := γ) (W := []) (F := F3895)) hfr4235 ht4195 (by decide)
    refine G_iload_n 3 dr_cX17_back_18 rfl ?_
    refine G_if_eq 43 dr_cX17_back_19 (by decide +kernel) (fun hc4238 => ?_) (fun hc4238 => ?_)
    · have r4239 : p3898.toInt = 0 := gj_eq hc4238 (show Int32.toInt 0 = 0 by decide)
      have bp3898' : gB p3898 0 0 := ⟨by omega, by omega⟩
      refine G_aload_n 2 dr_cX17_back_43 rfl ?_
      refine Gw_callV (As := []) (gV_ok D I) (cp_1669_Row_usesA l hl0 D I P3894 F4229 q3897 p3902 p3903 p3904 p3905 p3906 p3907 p3908 hm3900 he4233 bp3902 bp3903 bp3906 bp3907 bp3908) dr_cX17_back_44 ⟨wr_10_192, wr_1_39, wr_10_195, by decide, rfl, (Nat.le_of_ble_eq_true rfl), (Nat.le_of_ble_eq_true rfl)⟩ wr_10_193 wr_10_194 hm3900 he4233 rfl (show 0 + 0 ≤ 0 by first | omega | decide) (show 0 + 0 ≤ 0 by first | omega | decide) (Nat.le_of_ble_eq_true rfl) (fun r4243 w4244 dc4240 ds4241 hp4242 => ?_) (fun _ _ _ _ _ z => z.elim)
      obtain ⟨o4245, rfl, rfl, hdc, hds, bo4245, x4246⟩ := hp4242
      change G _ _ _ _ _ _ _ (.int o4245 :: _) _ _ _
      refine G_widen (cs' := 0) (sl' := 0) (by omega) (by omega) ?_
      refine G_if_eq 61 dr_cX17_back_47 (by decide +kernel) (fun hc4247 => ?_) (fun hc4247 => ?_)
      · have r4248 : o4245.toInt = 0 := gj_eq hc4247 (show Int32.toInt 0 = 0 by decide)
        have bo4245' : gB o4245 0 0 := ⟨by omega, by omega⟩
        refine G_aload_n 2 dr_cX17_back_61 rfl ?_
        refine Gw_callV (As := []) (gV_ok D I) (cp_1693_Row_usesB l hl0 D I P3894 F4229 q3897 p3902 p3903 p3904 p3905 p3906 p3907 p3908 hm3900 he4233 bp3902 bp3903 bp3906 bp3907 bp3908) dr_cX17_back_62 ⟨wr_10_196, wr_1_39, wr_10_199, by decide, rfl, (Nat.le_of_ble_eq_true rfl), (Nat.le_of_ble_eq_true rfl)⟩ wr_10_197 wr_10_198 hm3900 he4233 rfl (show 0 + 0 ≤ 0 by first | omega | decide) (show 0 + 0 ≤ 0 by first | omega | decide) (Nat.le_of_ble_eq_true rfl) (fun r4252 w4253 dc4249 ds4250 hp4251 => ?_) (fun _ _ _ _ _ z => z.elim)
        obtain ⟨o4254, rfl, rfl, hdc, hds, bo4254, x4255⟩ := hp4251
        change G _ _ _ _ _ _ _ (.int o4254 :: _) _ _ _
        refine G_widen (cs' := 0) (sl' := 0) (by omega) (by omega) ?_
        refine G_if_eq 79 dr_cX17_back_65 (by decide +kernel) (fun hc4256 => ?_) (fun hc4256 => ?_)
        · have r4257 : o4254.toInt = 0 := gj_eq hc4256 (show Int32.toInt 0 = 0 by decide)
          have bo4254' : gB o4254 0 0 := ⟨by omega, by omega⟩
          exact G_vretA dr_cX17_back_79 rfl (Nat.le_of_ble_eq_true rfl) (Nat.le_of_ble_eq_true rfl) ⟨F4229, rfl, rfl, hT4236, hs4237, (Nat.le_of_ble_eq_true rfl), (Nat.le_of_ble_eq_true rfl)⟩
        · have r4258 : o4254.toInt ≠ 0 := gj_neq hc4256 (show Int32.toInt 0 = 0 by decide)
          have bo4254' : gB o4254 1 1 := ⟨by omega, by omega⟩
          refine G_aload_n 1 dr_cX17_back_68 rfl ?_
          refine Gp_get 2 hm4172 he4234 dr_cX17_back_69 (gk_X17 D I) (Nat.le_of_ble_eq_true rfl) wr_7_76 rfl ?_
          refine G_aload_n 2 dr_cX17_back_72 rfl ?_
          refine Gp_get 3 hm3900 he4233 dr_cX17_back_73 (gk_X15 D I) (Nat.le_of_ble_eq_true rfl) wr_9_190 rfl ?_
          refine Gw_callS (As := [.ref (γ 9 2), .int p3905]) (gV_ok D I) (cp_1853_SpillForgeModel_set l hl0 D I P3894 F4229 (γ 9 2) p3905 f4227 hm4219 he4232 ⟨by omega, by omega⟩ x4228) dr_cX17_back_76 ⟨wr_10_189, wr_1_14, wr_10_191, by decide, rfl, (Nat.le_of_ble_eq_true rfl), (Nat.le_of_ble_eq_true rfl)⟩ wr_10_190 (show 0 + 0 ≤ 0 by first | omega | decide) (show 0 + 0 ≤ 0 by first | omega | decide) (Nat.le_of_ble_eq_true rfl) (fun r4262 w4263 dc4259 ds4260 hp4261 => ?_) (fun _ _ _ _ _ z => z.elim)
          obtain ⟨F4266, f4264, rfl, rfl, hfr4268, he4269, hdc, hds, x4265⟩ := hp4261
          have he4270 : F4266 q3897 = .inr (20, [.int p3902, .int p3903, .int p3904, .int p3905, .int p3906, .int p3907, .int p3908]) := (hfr4268 q3897 hm3900 (nm_c (rn_oa he4233 he4232) nm_n)).trans he4233
          have he4271 : F4266 q3896 = .inr (22, [.ref (γ 9 0), .ref (γ 9 1), .ref (γ 9 2), .ref (γ 9 3), .ref (γ 9 4), .ref (γ 9 5), .ref (γ 9 6), .ref (γ 9 7), .ref (γ 9 8), .int p4176, .int p4177, .int p4178, .int p4179, .int p4180, .int p4181, .ref (γ 9 15), .ref (γ 9 16), .ref (γ 9 17), .ref (γ 9 18), .ref (γ 9 19), .ref (γ 9 20), .ref (γ 9 21), .ref (γ 9 22), .int p4182, .int p4183, .int p4184, .int p4185, .int p4186, .ref q4174, .ref (γ 9 29), .int p4187, .ref (γ 9 31), .int p4188, .int p4189, .int p4190, .ref q4175]) := (hfr4268 q3896 hm4172 (nm_c (rn_oa he4234 he4232) nm_n)).trans he4234
          have hfr4272 : rFr [(γ 9 2)] P3894 F4229 F4266 := rFr_call (rSub_rf (P := P3894)) (rFr_rf (W := []) (P := P3894) (F := F4229)) hfr4268 (fun b hb hn => ⟨nm_n, (nm_c (fun e => hn (e ▸ List.mem_cons_self)) nm_n)⟩)
          change G _ _ _ _ _ _ _ _ _ _ _
          refine G_widen (cs' := 0) (sl' := 0) (by omega) (by omega) ?_
          have hT4273 : RS D I P3894 F4266 γ el := RS_fr hT4236 hfr4272 ht4195 (by decide) ⟨f4264, he4269, x4265⟩
          have hs4274 : rStr γ [] F3895 F4266 := rStr_fr hT4236 hs4237 hfr4272 ht4195 (by decide)
          exact G_vretA dr_cX17_back_79 rfl (Nat.le_of_ble_eq_true rfl) (Nat.le_of_ble_eq_true rfl) ⟨F4266, rfl, rfl, hT4273, hs4274, (Nat.le_of_ble_eq_true rfl), (Nat.le_of_ble_eq_true rfl)⟩
      · have r4275 : o4245.toInt ≠ 0 := gj_neq hc4247 (show Int32.toInt 0 = 0 by decide)
        have bo4245' : gB o4245 1 1 := ⟨by omega, by omega⟩
        refine G_aload_n 1 dr_cX17_back_50 rfl ?_
        refine Gp_get 2 hm4172 he4234 dr_cX17_back_51 (gk_X17 D I) (Nat.le_of_ble_eq_true rfl) wr_7_76 rfl ?_
        refine G_aload_n 2 dr_cX17_back_54 rfl ?_
        refine Gp_get 2 hm3900 he4233 dr_cX17_back_55 (gk_X15 D I) (Nat.le_of_ble_eq_true rfl) wr_9_186 rfl ?_
        refine Gw_callS (As := [.ref (γ 9 2), .int p3904]) (gV_ok D I) (cp_1853_SpillForgeModel_set l hl0 D I P3894 F4229 (γ 9 2) p3904 f4227 hm4219 he4232 ⟨by omega, by omega⟩ x4228) dr_cX17_back_58 ⟨wr_10_189, wr_1_14, wr_10_191, by decide, rfl, (Nat.le_of_ble_eq_true rfl), (Nat.le_of_ble_eq_true rfl)⟩ wr_10_190 (show 0 + 0 ≤ 0 by first | omega | decide) (show 0 + 0 ≤ 0 by first | omega | decide) (Nat.le_of_ble_eq_true rfl) (fun r4279 w4280 dc4276 ds4277 hp4278 => ?_) (fun _ _ _ _ _ z => z.elim)
        obtain ⟨F4283, f4281, rfl, rfl, hfr4285, he4286, hdc, hds, x4282⟩ := hp4278
        have he4287 : F4283 q3897 = .inr (20, [.int p3902, .int p3903, .int p3904, .int p3905, .int p3906, .int p3907, .int p3908]) := (hfr4285 q3897 hm3900 (nm_c (rn_oa he4233 he4232) nm_n)).trans he4233
        have he4288 : F4283 q3896 = .inr (22, [.ref (γ 9 0), .ref (γ 9 1), .ref (γ 9 2), .ref (γ 9 3), .ref (γ 9 4), .ref (γ 9 5), .ref (γ 9 6), .ref (γ 9 7), .ref (γ 9 8), .int p4176, .int p4177, .int p4178, .int p4179, .int p4180, .int p4181, .ref (γ 9 15), .ref (γ 9 16), .ref (γ 9 17), .ref (γ 9 18), .ref (γ 9 19), .ref (γ 9 20), .ref (γ 9 21), .ref (γ 9 22), .int p4182, .int p4183, .int p4184, .int p4185, .int p4186, .ref q4174, .ref (γ 9 29), .int p4187, .ref (γ 9 31), .int p4188, .int p4189, .int p4190, .ref q4175]) := (hfr4285 q3896 hm4172 (nm_c (rn_oa he4234 he4232) nm_n)).trans he4234
        have hfr4289 : rFr [(γ 9 2)] P3894 F4229 F4283 := rFr_call (rSub_rf (P := P3894)) (rFr_rf (W := []) (P := P3894) (F := F4229)) hfr4285 (fun b hb hn => ⟨nm_n, (nm_c (fun e => hn (e ▸ List.mem_cons_self)) nm_n)⟩)
        change G _ _ _ _ _ _ _ _ _ _ _
        refine G_widen (cs' := 0) (sl' := 0) (by omega) (by omega) ?_
        have hT4290 : RS D I P3894 F4283 γ el := RS_fr hT4236 hfr4289 ht4195 (by decide) ⟨f4281, he4286, x4282⟩
        have hs4291 : rStr γ [] F3895 F4283 := rStr_fr hT4236 hs4237 hfr4289 ht4195 (by decide)
        refine G_aload_n 2 dr_cX17_back_61 rfl ?_
        refine Gw_callV (As := []) (gV_ok D I) (cp_1693_Row_usesB l hl0 D I P3894 F4283 q3897 p3902 p3903 p3904 p3905 p3906 p3907 p3908 hm3900 he4287 bp3902 bp3903 bp3906 bp3907 bp3908) dr_cX17_back_62 ⟨wr_10_196, wr_1_39, wr_10_199, by decide, rfl, (Nat.le_of_ble_eq_true rfl), (Nat.le_of_ble_eq_true rfl)⟩ wr_10_197 wr_10_198 hm3900 he4287 rfl (show 0 + 0 ≤ 0 by first | omega | decide) (show 0 + 0 ≤ 0 by first | omega | decide) (Nat.le_of_ble_eq_true rfl) (fun r4295 w4296 dc4292 ds4293 hp4294 => ?_) (fun _ _ _ _ _ z => z.elim)
        obtain ⟨o4297, rfl, rfl, hdc, hds, bo4297, x4298⟩ := hp4294
        change G _ _ _ _ _ _ _ (.int o4297 :: _) _ _ _
        refine G_widen (cs' := 0) (sl' := 0) (by omega) (by omega) ?_
        refine G_if_eq 79 dr_cX17_back_65 (by decide +kernel) (fun hc4299 => ?_) (fun hc4299 => ?_)
        · have r4300 : o4297.toInt = 0 := gj_eq hc4299 (show Int32.toInt 0 = 0 by decide)
          have bo4297' : gB o4297 0 0 := ⟨by omega, by omega⟩
          exact G_vretA dr_cX17_back_79 rfl (Nat.le_of_ble_eq_true rfl) (Nat.le_of_ble_eq_true rfl) ⟨F4283, rfl, rfl, hT4290, hs4291, (Nat.le_of_ble_eq_true rfl), (Nat.le_of_ble_eq_true rfl)⟩
        · have r4301 : o4297.toInt ≠ 0 := gj_neq hc4299 (show Int32.toInt 0 = 0 by decide)
          have bo4297' : gB o4297 1 1 := ⟨by omega, by omega⟩
          refine G_aload_n 1 dr_cX17_back_68 rfl ?_
          refine Gp_get 2 hm4172 he4288 dr_cX17_back_69 (gk_X17 D I) (Nat.le_of_ble_eq_true rfl) wr_7_76 rfl ?_
          refine G_aload_n 2 dr_cX17_back_72 rfl ?_
          refine Gp_get 3 hm3900 he4287 dr_cX17_back_73 (gk_X15 D I) (Nat.le_of_ble_eq_true rfl) wr_9_190 rfl ?_
          refine Gw_callS (As := [.ref (γ 9 2), .int p3905]) (gV_ok D I) (cp_1853_SpillForgeModel_set l hl0 D I P3894 F4283 (γ 9 2) p3905 f4281 hm4219 he4286 ⟨by omega, by omega⟩ x4282) dr_cX17_back_76 ⟨wr_10_189, wr_1_14, wr_10_191, by decide, rfl, (Nat.le_of_ble_eq_true rfl), (Nat.le_of_ble_eq_true rfl)⟩ wr_10_190 (show 0 + 0 ≤ 0 by first | omega | decide) (show 0 + 0 ≤ 0 by first | omega | decide) (Nat.le_of_ble_eq_true rfl) (fun r4305 w4306 dc4302 ds4303 hp4304 => ?_) (fun _ _ _ _ _ z => z.elim)
          obtain ⟨F4309, f4307, rfl, rfl, hfr4311, he4312, hdc, hds, x4308⟩ := hp4304
          have he4313 : F4309 q3897 = .inr (20, [.int p3902, .int p3903, .int p3904, .int p3905, .int p3906, .int p3907, .int p3908]) := (hfr4311 q3897 hm3900 (nm_c (rn_oa he4287 he4286) nm_n)).trans he4287
          have he4314 : F4309 q3896 = .inr (22, [.ref (γ 9 0), .ref (γ 9 1), .ref (γ 9 2), .ref (γ 9 3), .ref (γ 9 4), .ref (γ 9 5), .ref (γ 9 6), .ref (γ 9 7), .ref (γ 9 8), .int p4176, .int p4177, .int p4178, .int p4179, .int p4180, .int p4181, .ref (γ 9 15), .ref (γ 9 16), .ref (γ 9 17), .ref (γ 9 18), .ref (γ 9 19), .ref (γ 9 20), .ref (γ 9 21), .ref (γ 9 22), .int p4182, .int p4183, .int p4184, .int p4185, .int p4186, .ref q4174, .ref (γ 9 29), .int p4187, .ref (γ 9 31), .int p4188, .int p4189, .int p4190, .ref q4175]) := (hfr4311 q3896 hm4172 (nm_c (rn_oa he4288 he4286) nm_n)).trans he4288
          have hfr4315 : rFr [(γ 9 2)] P3894 F4283 F4309 := rFr_call (rSub_rf (P := P3894)) (rFr_rf (W := []) (P := P3894) (F := F4283)) hfr4311 (fun b hb hn => ⟨nm_n, (nm_c (fun e => hn (e ▸ List.mem_cons_self)) nm_n)⟩)
          change G _ _ _ _ _ _ _ _ _ _ _
          refine G_widen (cs' := 0) (sl' := 0) (by omega) (by omega) ?_
          have hT4316 : RS D I P3894 F4309 γ el := RS_fr hT4290 hfr4315 ht4195 (by decide) ⟨f4307, he4312, x4308⟩
          have hs4317 : rStr γ [] F3895 F4309 := rStr_fr hT4290 hs4291 hfr4315 ht4195 (by decide)
          exact G_vretA dr_cX17_back_79 rfl (Nat.le_of_ble_eq_true rfl) (Nat.le_of_ble_eq_true rfl) ⟨F4309, rfl, rfl, hT4316, hs4317, (Nat.le_of_ble_eq_true rfl), (Nat.le_of_ble_eq_true rfl)⟩
    · have r4318 : p3898.toInt ≠ 0 := gj_neq hc4238 (show Int32.toInt 0 = 0 by decide)
      have bp3898' : gB p3898 1 1 := ⟨by omega, by omega⟩
      refine G_aload_n 2 dr_cX17_back_22 rfl ?_
      refine Gp_get 0 hm3900 he4233 dr_cX17_back_23 (gk_X15 D I) (Nat.le_of_ble_eq_true rfl) wr_9_177 rfl ?_
      refine G_bipush 21 dr_cX17_back_26 (by decide +kernel) ?_
      refine G_icmp_ne 42 dr_cX17_back_28 (by decide +kernel) (fun hc4319 => ?_) (fun hc4319 => ?_)
      · have r4320 : p3902.toInt ≠ 21 := gj_neq hc4319 (show Int32.toInt 21 = 21 by decide)
        exact G_vretA dr_cX17_back_42 rfl (Nat.le_of_ble_eq_true rfl) (Nat.le_of_ble_eq_true rfl) ⟨F4229, rfl, rfl, hT4236, hs4237, (Nat.le_of_ble_eq_true rfl), (Nat.le_of_ble_eq_true rfl)⟩
      · have r4321 : p3902.toInt = 21 := gj_eq hc4319 (show Int32.toInt 21 = 21 by decide)
        have bp3902' : gB p3902 21 21 := ⟨by omega, by omega⟩
        refine G_aload_n 1 dr_cX17_back_31 rfl ?_
        refine Gp_get 2 hm4172 he4234 dr_cX17_back_32 (gk_X17 D I) (Nat.le_of_ble_eq_true rfl) wr_7_76 rfl ?_
        refine G_aload_n 2 dr_cX17_back_35 rfl ?_
        refine Gp_get 4 hm3900 he4233 dr_cX17_back_36 (gk_X15 D I) (Nat.le_of_ble_eq_true rfl) wr_9_193 rfl ?_
        refine Gw_callS (As := [.ref (γ 9 2), .int p3906]) (gV_ok D I) (cp_1853_SpillForgeModel_set l hl0 D I P3894 F4229 (γ 9 2) p3906 f4227 hm4219 he4232 bp3906 x4228) dr_cX17_back_39 ⟨wr_10_189, wr_1_14, wr_10_191, by decide, rfl, (Nat.le_of_ble_eq_true rfl), (Nat.le_of_ble_eq_true rfl)⟩ wr_10_190 (show 0 + 0 ≤ 0 by first | omega | decide) (show 0 + 0 ≤ 0 by first | omega | decide) (Nat.le_of_ble_eq_true rfl) (fun r4325 w4326 dc4322 ds4323 hp4324 => ?_) (fun _ _ _ _ _ z => z.elim)
        obtain ⟨F4329, f4327, rfl, rfl, hfr4331, he4332, hdc, hds, x4328⟩ := hp4324
        have he4333 : F4329 q3897 = .inr (20, [.int p3902, .int p3903, .int p3904, .int p3905, .int p3906, .int p3907, .int p3908]) := (hfr4331 q3897 hm3900 (nm_c (rn_oa he4233 he4232) nm_n)).trans he4233
        have he4334 : F4329 q3896 = .inr (22, [.ref (γ 9 0), .ref (γ 9 1), .ref (γ 9 2), .ref (γ 9 3), .ref (γ 9 4), .ref (γ 9 5), .ref (γ 9 6), .ref (γ 9 7), .ref (γ 9 8), .int p4176, .int p4177, .int p4178, .int p4179, .int p4180, .int p4181, .ref (γ 9 15), .ref (γ 9 16), .ref (γ 9 17), .ref (γ 9 18), .ref (γ 9 19), .ref (γ 9 20), .ref (γ 9 21), .ref (γ 9 22), .int p4182, .int p4183, .int p4184, .int p4185, .int p4186, .ref q4174, .ref (γ 9 29), .int p4187, .ref (γ 9 31), .int p4188, .int p4189, .int p4190, .ref q4175]) := (hfr4331 q3896 hm4172 (nm_c (rn_oa he4234 he4232) nm_n)).trans he4234
        have hfr4335 : rFr [(γ 9 2)] P3894 F4229 F4329 := rFr_call (rSub_rf (P := P3894)) (rFr_rf (W := []) (P := P3894) (F := F4229)) hfr4331 (fun b hb hn => ⟨nm_n, (nm_c (fun e => hn (e ▸ List.mem_cons_self)) nm_n)⟩)
        change G _ _ _ _ _ _ _ _ _ _ _
        refine G_widen (cs' := 0) (sl' := 0) (by omega) (by omega) ?_
        have hT4336 : RS D I P3894 F4329 γ el := RS_fr hT4236 hfr4335 ht4195 (by decide) ⟨f4327, he4332, x4328⟩
        have hs4337 : rStr γ [] F3895 F4329 := rStr_fr hT4236 hs4237 hfr4335 ht4195 (by decide)
        exact G_vretA dr_cX17_back_42 rfl (Nat.le_of_ble_eq_true rfl) (Nat.le_of_ble_eq_true rfl) ⟨F4329, rfl, rfl, hT4336, hs4337, (Nat.le_of_ble_eq_true rfl), (Nat.le_of_ble_eq_true rfl)⟩
abbrev ky_4351_SpillForgeModel_load : gKey := (cX17_load, 6, "SpillForgeModel", (some FieldType.int), [], "load", fun _ _ => True)
def pg_4351_SpillForgeModel_load (D : va_G) (I : FieldType → ClassId) (γ0 el0 : Nat → Nat → Nat) (f : Nat) (B : Nat) (P4339 : List Nat) (F4340 : Nat → va_E) (q4341 : Nat) (q4342 : Nat) (q4343 : Nat) (p4344 : Int32) (p4345 : Int32) (jx4346 : Nat) : Option Value → va_W → Nat → Nat → Prop := fun r w dc ds => ∃ (P4676 : List Nat) (F4677 : Nat → va_E) (γ el : Nat → Nat → Nat) (o4675 : Int32), r = some (.int o4675) ∧ w = va_pl P4676 F4677 ∧ rSk f [101] ([3, 5, 6, 8, 9, 10, 101]) D I P4339 F4340 γ0 el0 P4676 F4677 γ el ∧ (18 * dc + rPh γ0 el0 f ≤ rPh γ el f ∧ ds + rPh γ0 el0 f ≤ rPh γ el f) ∧ rBd γ el f B ∧ gB o4675 (-1) 1999
set_option maxRecDepth 100000 in
set_option maxHeartbeats 4000000 in
theorem cg_4351_SpillForgeModel_load (l : Launch) (hl0 : l.stackTraces = false) (D : va_G) (I : FieldType → ClassId) (γ0 el0 : Nat → Nat → Nat) (f : Nat) (B : Nat) (P4339 : List Nat) (F4340 : Nat → va_E) (q4341 : Nat) (q4342 : Nat) (q4343 : Nat) (p4344 : Int32) (p4345 : Int32) (jx4346 : Nat) (hT0 : RS D I P4339 F4340 γ0 el0) (hzq4341 : rKd γ0 q4341 10) (hzq4342 : rKd γ0 q4342 9) (hzq4343 : rKd γ0 q4343 2) (hf0 : γ0 1 q4342 = f) (hB0 : rBd γ0 el0 f B) (hqjjx4346 : jx4346 < γ0 2 (γ0 14 q4342)) (hqejx4346 : el0 (γ0 14 q4342) jx4346 = q4343) (hqfjx4346 : γ0 1 q4343 = f) (bp4344 : gB p4344 0 1000000) (bp4345 : gB p4345 0 1999) (x4347 : p4344.toInt ≤ γ0 2 (γ0 14 q4343)) (x4348 : p4345.toInt < γ0 7 f) (x4349 : γ0 16 f + 1 ≤ B) (x4350 : B ≤ 100000) : CtA (gV D I) l yX17_load cX17_load 6 (some FieldType.int) 8 170 (((387 * B + 6000) - rPh γ0 el0 f) / 18) ((387 * B + 6000) - rPh γ0 el0 f) [.ref q4341, .ref q4342, .ref q4343, .int p4344, .int p4345] (va_pl P4339 F4340) (pg_4351_SpillForgeModel_load D I γ0 el0 f B P4339 F4340 q4341 q4342 q4343 p4344 p4345 jx4346) gNA := by
  refine CtA_of hl0 (by decide) (Nat.le_of_ble_eq_true rfl) ?_
  obtain ⟨γ, hγ0⟩ : ∃ z, z = γ0 := ⟨_, rfl⟩
  obtain ⟨el, hel0⟩ : ∃ z, z = el0 := ⟨_, rfl⟩
  have hT : RS D I P4339 F4340 γ el := by rw [hγ0, hel0]; exact hT0
  have hst : rSk f [101] ([3, 5, 6, 8, 9, 10, 101]) D I P4339 F4340 γ0 el0 P4339 F4340 γ el := by rw [hγ0, hel0]; exact rSk_rf hT0
  have hph : rPh γ0 el0 f ≤ rPh γ el f := by rw [hγ0, hel0]; exact Nat.le_refl _
  have hB : rBd γ el f B := by rw [hγ0, hel0]; exact hB0
  have htq4341 : rKd γ q4341 10 := by rw [hγ0]; exact hzq4341
  have htq4342 : rKd γ q4342 9 := by rw [hγ0]; exact hzq4342
  have htq4343 : rKd γ q4343 2 := by rw [hγ0]; exact hzq4343
  have hf1 : γ 1 q4342 = f := by rw [hγ0]; exact hf0
  have hpjjx4346 : jx4346 < γ 2 (γ 14 q4342) := by rw [hγ0]; exact hqjjx4346
  have hpejx4346 : el (γ 14 q4342) jx4346 = q4343 := by rw [hγ0, hel0]; exact hqejx4346
  have hpfjx4346 : γ 1 q4343 = f := by rw [hγ0]; exact hqfjx4346
  have x4347n : p4344.toInt ≤ γ 2 (γ 14 q4343) := by rw [hγ0]; exact x4347
  have x4348n : p4345.toInt < γ 7 f := by rw [hγ0]; exact x4348
  have x4349n : γ 16 f + 1 ≤ B := by rw [hγ0]; exact x4349
  have rm0 := rM_bd hB
  have rg0 := (rM_ge hT htq4342 hf1).1
  refine G_widen (cs' := ((rPh γ el f - rPh γ0 el0 f) / 18)) (sl' := (rPh γ el f - rPh γ0 el0 f)) (Nat.zero_le _) (Nat.zero_le _) ?_
  refine G_aload_n 0 dr_cX17_load_0 rfl ?_
  have hm4352 : q4341 ∈ P4339 := RS_m hT htq4341 (by decide)
  obtain ⟨q4354, q4355, p4356, p4357, p4358, p4359, p4360, p4361, p4362, p4363, p4364, p4365, p4366, p4367, p4368, p4369, p4370, he4353, hB4397, ht4371, ht4372, ht4373, ht4374, ht4375, ht4376, ht4377, ht4378, ht4379, ht4380, ht4381, ht4382, ht4383, ht4384, ht4385, ht4386, ht4387, ht4388, ht4389, ht4390, ht4391, ht4392, ht4393, ht4394, hB4398⟩ := show rk_10 γ (F4340 q4341) from RS_o hT htq4341
  refine Gp_get 14 hm4352 he4353 dr_cX17_load_1 (gk_X17 D I) (Nat.le_of_ble_eq_true rfl) wr_7_88 rfl ?_
  have bp4361 : gB p4361 0 2000 := (hB4397.2.2.2.1)
  refine G_sipush 2000 dr_cX17_load_4 (by decide +kernel) ?_
  refine G_icmp_ne 12 dr_cX17_load_7 (by decide +kernel) (fun hc4399 => ?_) (fun hc4399 => ?_)
  · have r4400 : p4361.toInt ≠ 2000 := gj_neq hc4399 (show Int32.toInt 2000 = 2000 by decide)
    have bp4361' : gB p4361 0 1999 := ⟨by omega, by omega⟩
    refine G_aload_n 1 dr_cX17_load_12 rfl ?_
    have rg4401 := rM_ge hT htq4342 hf1
    have rm4402 := rM_bd hB
    have bd4403 := rBd_c hT htq4342 hf1 hB
    have rc4404 := rc_at hT htq4342 hf1
    obtain ⟨q4411, hl4412⟩ : ∃ z, z = γ 14 q4343 := ⟨_, rfl⟩
    have hl4413 : γ 0 q4411 = 3 ∨ γ 0 q4411 = 103 := by rw [hl4412, ← hpejx4346]; exact (RS_lst hT rc4404.2.1 hpjjx4346).1
    refine Gt_row (c := q4342) (f := f) hl0 dr_cX17_load_13 ⟨wr_10_206, wr_1_15, wr_10_82, by decide, rfl, (Nat.le_of_ble_eq_true rfl), (Nat.le_of_ble_eq_true rfl)⟩ wr_10_80 wr_10_81 hT htq4342 hf1 (by omega) (show ((rPh γ el f - rPh γ0 el0 f) / 18) + 2 ≤ (((387 * B + 6000) - rPh γ0 el0 f) / 18) by omega) (show (rPh γ el f - rPh γ0 el0 f) + (2 * γ 13 (γ 15 q4342) + 18) ≤ ((387 * B + 6000) - rPh γ0 el0 f) by omega) (Nat.le_of_ble_eq_true rfl) (fun P4405 F4406 γ el q4407 dc4408 ds4409 hq4410 => ?_)
    obtain ⟨hk4414, x04415, x14416, x224417, x84418, h164419, h184420, hnu4421, hot4422, h454423, hf04424, ⟨hr14425, hr24426⟩, hM4427, hBB4428⟩ := hq4410
    have hk4429 := rSk_of hk4414
    have hT4430 := hk4429.1
    have hs4431 := rSk_tr hst hk4429 (by decide) (by decide) (by decide)
    have r4432 := rSk_F hk4429 htq4341 (by decide) (by decide)
    have ht4433 : rKd γ q4341 10 := rSk_k hk4429 htq4341 (by decide) (by decide)
    have ht4434 : rKd γ q4342 9 := rSk_k hk4429 htq4342 (by decide) (by decide)
    have hf4435 : γ 1 q4342 = f := rSk_1 hk4429 htq4342 (by decide) hf1
    have ht4436 : rKd γ q4343 2 := rSk_k hk4429 htq4343 (by decide) (by decide)
    have hf4437 : γ 1 q4343 = f := rSk_1 hk4429 htq4343 (by decide) hpfjx4346
    have r4438 := (rSk_s hk4429 htq4342 (by decide)).2.1
    have r4439 := hot4422 _ (by rw [rc4404.2.1]; decide) (by rw [rc4404.2.1]; decide)
    have r4440 : jx4346 < γ 2 (γ 14 q4342) := by rw [r4438, r4439.1]; exact hpjjx4346
    have r4441 : el (γ 14 q4342) jx4346 = q4343 := by rw [r4438, r4439.2]; exact hpejx4346
    have hm4442 : q4341 ∈ P4405 := RS_m hT4430 ht4433 (by decide)
    obtain ⟨q4444, q4445, p4446, p4447, p4448, p4449, p4450, p4451, p4452, p4453, p4454, p4455, p4456, p4457, p4458, p4459, p4460, he4443, hB4487, ht4461, ht4462, ht4463, ht4464, ht4465, ht4466, ht4467, ht4468, ht4469, ht4470, ht4471, ht4472, ht4473, ht4474, ht4475, ht4476, ht4477, ht4478, ht4479, ht4480, ht4481, ht4482, ht4483, ht4484, hB4488⟩ := show rk_10 γ (F4406 q4341) from RS_o hT4430 ht4433
    have r4489 : p4448.toInt = p4358.toInt := by have z : p4448 = p4358 := congrArg (fun e => fI e 11) (he4443.symm.trans (r4432.trans he4353)); rw [z]
    have bp4448 : gB p4448 0 100 := (hB4487.2.2.1)
    have r4490 : p4451.toInt = p4361.toInt := by have z : p4451 = p4361 := congrArg (fun e => fI e 14) (he4443.symm.trans (r4432.trans he4353)); rw [z]
    have bp4451 : gB p4451 0 2000 := (hB4487.2.2.2.1)
    have bp4451' : gB p4451 0 1999 := ⟨by omega, by omega⟩
    have sz4491 := (rSk_s hk4429 htq4343 (by decide)).2.1
    have sz4492 := congrArg (γ 2) sz4491
    have sz4493 := (hot4422 q4411 (by omega) (by omega)).1
    rw [hl4412] at sz4493
    obtain ⟨nu4494, nu4495, nu4496, nu4497⟩ := hnu4421
    have hB4498 : rBd γ el f B := hBB4428 B (by omega) hB
    have ht4499 : rKd γ q4407 101 := x04415
    have r4500 : γ 8 q4407 < γ 16 f := by omega
    have hph4501 : rPh γ0 el0 f ≤ rPh γ el f := by omega
    have rm4502 := rM_bd hB4498
    have rg4503 := (rM_ge hT4430 ht4434 hf4435).1
    have hm4504 : q4407 ∈ P4405 := RS_m hT4430 ht4499 (by decide)
    obtain ⟨p4506, p4507, p4508, p4509, p4510, p4511, p4512, he4505, bp4506, bp4507, bp4510, bp4511, bp4512, r4513, r4514, r4515⟩ := show rkR (F4406 q4407) from RS_o hT4430 ht4499
    have bp4508 := gB_any p4508
    have bp4509 := gB_any p4509
    have r4516 : p4511.toInt = 0 := by have z := hf04424.1; rw [he4505] at z; exact z
    have bp4511' : gB p4511 0 0 := ⟨by omega, by omega⟩
    have r4517 : p4512.toInt = 0 := by have z := hf04424.2; rw [he4505] at z; exact z
    have bp4512' : gB p4512 0 0 := ⟨by omega, by omega⟩
    refine G_widen (cs' := ((rPh γ el f - rPh γ0 el0 f) / 18)) (sl' := (rPh γ el f - rPh γ0 el0 f)) (by omega) (by omega) ?_
    refine G_astore (L' := [(5, .ref q4407), (0, .ref q4341), (1, .ref q4342), (2, .ref q4343), (3, .int p4344), (4, .int p4345)]) dr_cX17_load_16 (Nat.le_of_ble_eq_true rfl) rfl ?_
    refine G_aload 0 dr_cX17_load_18 rfl ?_
    refine G_bipush 21 dr_cX17_load_20 (by decide +kernel) ?_
    refine Gp_put 0 hm4504 he4505 dr_cX17_load_22 (gk_X15 D I) (Nat.le_of_ble_eq_true rfl) wr_9_177 rfl rfl rfl (Nat.le_of_ble_eq_true rfl) (fun F4518 e4519 n4520 => ?_)
    have he4521 : F4518 q4341 = .inr (22, [.ref (γ 9 0), .ref (γ 9 1), .ref (γ 9 2), .ref (γ 9 3), .ref (γ 9 4), .ref (γ 9 5), .ref (γ 9 6), .ref (γ 9 7), .ref (γ 9 8), .int p4446, .int p4447, .int p4448, .int p4449, .int p4450, .int p4451, .ref (γ 9 15), .ref (γ 9 16), .ref (γ 9 17), .ref (γ 9 18), .ref (γ 9 19), .ref (γ 9 20), .ref (γ 9 21), .ref (γ 9 22), .int p4452, .int p4453, .int p4454, .int p4455, .int p4456, .ref q4444, .ref (γ 9 29), .int p4457, .ref (γ 9 31), .int p4458, .int p4459, .int p4460, .ref q4445]) := (n4520 q4341 (rn_oo he4443 he4505 (by decide))).trans he4443
    have he4522 : F4518 q4407 = .inr (20, [.int 21, .int p4507, .int p4508, .int p4509, .int p4510, .int p4511, .int p4512]) := e4519
    refine G_aload 0 dr_cX17_load_25 rfl ?_
    refine G_aload_n 1 dr_cX17_load_27 rfl ?_
    refine Gp_get 14 hm4442 he4521 dr_cX17_load_28 (gk_X17 D I) (Nat.le_of_ble_eq_true rfl) wr_7_88 rfl ?_
    refine Gp_put 1 hm4504 he4522 dr_cX17_load_31 (gk_X15 D I) (Nat.le_of_ble_eq_true rfl) wr_9_182 rfl rfl rfl (Nat.le_of_ble_eq_true rfl) (fun F4523 e4524 n4525 => ?_)
    have he4526 : F4523 q4341 = .inr (22, [.ref (γ 9 0), .ref (γ 9 1), .ref (γ 9 2), .ref (γ 9 3), .ref (γ 9 4), .ref (γ 9 5), .ref (γ 9 6), .ref (γ 9 7), .ref (γ 9 8), .int p4446, .int p4447, .int p4448, .int p4449, .int p4450, .int p4451, .ref (γ 9 15), .ref (γ 9 16), .ref (γ 9 17), .ref (γ 9 18), .ref (γ 9 19), .ref (γ 9 20), .ref (γ 9 21), .ref (γ 9 22), .int p4452, .int p4453, .int p4454, .int p4455, .int p4456, .ref q4444, .ref (γ 9 29), .int p4457, .ref (γ 9 31), .int p4458, .int p4459, .int p4460, .ref q4445]) := (n4525 q4341 (rn_oo he4521 he4522 (by decide))).trans he4521
    have he4527 : F4523 q4407 = .inr (20, [.int 21, .int p4451, .int p4508, .int p4509, .int p4510, .int p4511, .int p4512]) := e4524
    have n4528 : ∀ b, b ≠ q4407 → F4523 b = F4406 b := fun b hb => (n4525 b hb).trans (n4520 b hb)
    refine G_aload 0 dr_cX17_load_34 rfl ?_
    refine G_iload 5 dr_cX17_load_36 rfl ?_
    refine Gp_put 4 hm4504 he4527 dr_cX17_load_38 (gk_X15 D I) (Nat.le_of_ble_eq_true rfl) wr_9_193 rfl rfl rfl (Nat.le_of_ble_eq_true rfl) (fun F4529 e4530 n4531 => ?_)
    have he4532 : F4529 q4341 = .inr (22, [.ref (γ 9 0), .ref (γ 9 1), .ref (γ 9 2), .ref (γ 9 3), .ref (γ 9 4), .ref (γ 9 5), .ref (γ 9 6), .ref (γ 9 7), .ref (γ 9 8), .int p4446, .int p4447, .int p4448, .int p4449, .int p4450, .int p4451, .ref (γ 9 15), .ref (γ 9 16), .ref (γ 9 17), .ref (γ 9 18), .ref (γ 9 19), .ref (γ 9 20), .ref (γ 9 21), .ref (γ 9 22), .int p4452, .int p4453, .int p4454, .int p4455, .int p4456, .ref q4444, .ref (γ 9 29), .int p4457, .ref (γ 9 31), .int p4458, .int p4459, .int p4460, .ref q4445]) := (n4531 q4341 (rn_oo he4526 he4527 (by decide))).trans he4526
    have he4533 : F4529 q4407 = .inr (20, [.int 21, .int p4451, .int p4508, .int p4509, .int p4345, .int p4511, .int p4512]) := e4530
    have n4534 : ∀ b, b ≠ q4407 → F4529 b = F4406 b := fun b hb => (n4531 b hb).trans (n4528 b hb)
    refine G_aload_n 3 dr_cX17_load_41 rfl ?_
    have hT4535 : RS D I P4405 F4529 γ el := RS_set hT4430 n4534 ht4499 (by decide) ⟨21, p4451, p4508, p4509, p4345, p4511, p4512, he4533, (gB_w (gBl (show Int32.toInt 21 = 21 by decide)) (by decide) (by decide)), bp4451', bp4345, (gB_w bp4511' (by decide) (by decide)), (gB_w bp4512' (by decide) (by decide)), (by have qa0 : Int32.toInt 21 = 21 := (by decide); omega), (by have qa0 : Int32.toInt 21 = 21 := (by decide); omega), (by have qa0 : Int32.toInt 21 = 21 := (by decide); omega)⟩
    have hs4536 := rSk_put hs4431 hT4535 n4534 ht4499 (by decide) (by decide)
    have hm4537 : q4343 ∈ P4405 := RS_m hT4535 ht4436 (by decide)
    obtain ⟨q4539, q4540, p4541, p4542, he4538, ht4549, ht4543, ht4544, ht4545, ht4546, ht4547, bp4541, bp4542, r4548, r4550, r4551⟩ := show rk_2 γ q4343 (F4529 q4343) from RS_o hT4535 ht4436
    have hf4552 : γ 1 q4539 = f := (show γ 1 q4539 = γ 1 q4343 from ht4544).trans hf4437
    have hf4553 : γ 1 q4540 = f := (show γ 1 q4540 = γ 1 q4343 from ht4546).trans hf4437
    have r4554 : γ 2 (γ 14 q4343) = γ 2 q4539 := by rw [ht4549.1]
    refine Gp_get 0 hm4537 he4538 dr_cX17_load_42 (gk_X12 D I) (Nat.le_of_ble_eq_true rfl) wr_9_220 rfl ?_
    refine G_iload_n 4 dr_cX17_load_45 rfl ?_
    refine G_aload 0 dr_cX17_load_46 rfl ?_
    have rg4555 := rM_ge hT4535 ht4434 hf4435
    have rm4556 := rM_bd hB4498
    have bd4557 := rBd_c hT4535 ht4434 hf4435 hB4498
    have rc4558 := rc_at hT4535 ht4434 hf4435
    have r4560 : γ 14 (el (γ 14 q4342) jx4346) = q4539 := by rw [r4441]; exact ht4549.1
    have r4561 := rg4555.2.2 _ r4440
    rw [r4560] at r4561
    have r4562 := bd4557.2.2.2 _ r4440
    rw [r4560] at r4562
    have r4563 : γ 7 (γ 1 q4407) = γ 7 f := by rw [x14416]
    have hx4564 : rk_1 γ q4407 (F4529 q4407) := ⟨21, p4451, p4508, p4509, p4345, p4511, p4512, he4533, (gB_w (gBl (show Int32.toInt 21 = 21 by decide)) (by decide) (by decide)), bp4451', bp4345, (gB_w bp4511' (by decide) (by decide)), (gB_w bp4512' (by decide) (by decide)), (by have qa0 : Int32.toInt 21 = 21 := (by decide); omega), (by have qa0 : Int32.toInt 21 = 21 := (by decide); omega), (by have qa0 : Int32.toInt 21 = 21 := (by decide); omega), (by have qa0 : Int32.toInt 21 = 21 := (by decide); omega)⟩
    refine Gt_ins (c := q4342) (f := f) hl0 dr_cX17_load_48 ⟨wr_10_207, wr_1_18, wr_10_210, by decide, rfl, (Nat.le_of_ble_eq_true rfl), (Nat.le_of_ble_eq_true rfl)⟩ wr_10_208 wr_10_209 hT4535 ht4543 hf4552 ht4499 x14416 x224417 r4500 (by omega) ht4434 hf4435 r4440 r4560 hx4564 (by omega) (by omega) (by omega) (show ((rPh γ el f - rPh γ0 el0 f) / 18) + 1 ≤ (((387 * B + 6000) - rPh γ0 el0 f) / 18) by omega) (show (rPh γ el f - rPh γ0 el0 f) + (2 * γ 13 q4539 + 11) ≤ ((387 * B + 6000) - rPh γ0 el0 f) by omega) (Nat.le_of_ble_eq_true rfl) (fun P4565 F4559 γ el dc4566 ds4567 hq4568 => ?_)
    obtain ⟨hk4569, x04570, h24571, hel4572, hot4573, h164574, h184575, hnu4576, hFx4577, hr4578, hM4579, hBB4580⟩ := hq4568
    have hk4581 := rSk_of hk4569
    have hT4582 := hk4581.1
    have hs4583 := rSk_tr hs4536 hk4581 (by decide) (by decide) (by decide)
    have r4584 := rSk_F hk4581 ht4433 (by decide) (by decide)
    have ht4585 : rKd γ q4341 10 := rSk_k hk4581 ht4433 (by decide) (by decide)
    have ht4586 : rKd γ q4342 9 := rSk_k hk4581 ht4434 (by decide) (by decide)
    have hf4587 : γ 1 q4342 = f := rSk_1 hk4581 ht4434 (by decide) hf4435
    have ht4588 : rKd γ q4343 2 := rSk_k hk4581 ht4436 (by decide) (by decide)
    have hf4589 : γ 1 q4343 = f := rSk_1 hk4581 ht4436 (by decide) hf4437
    have ht4590 : rKd γ q4539 3 := rSk_k hk4581 ht4543 (by decide) (by decide)
    have hf4591 : γ 1 q4539 = f := rSk_1 hk4581 ht4543 (by decide) hf4552
    have r4592 := (rSk_s hk4581 ht4434 (by decide)).2.1
    have r4593 := hot4573 _ (by rw [rc4558.2.1]; decide) (fun q => by rw [q, show _ = 3 from ht4543] at rc4558; exact absurd rc4558.2.1 (by decide))
    have r4594 : jx4346 < γ 2 (γ 14 q4342) := by rw [r4592, r4593.1]; exact r4440
    have r4595 : el (γ 14 q4342) jx4346 = q4343 := by rw [r4592, r4593.2]; exact r4441
    have hm4596 : q4341 ∈ P4565 := RS_m hT4582 ht4585 (by decide)
    obtain ⟨q4598, q4599, p4600, p4601, p4602, p4603, p4604, p4605, p4606, p4607, p4608, p4609, p4610, p4611, p4612, p4613, p4614, he4597, hB4641, ht4615, ht4616, ht4617, ht4618, ht4619, ht4620, ht4621, ht4622, ht4623, ht4624, ht4625, ht4626, ht4627, ht4628, ht4629, ht4630, ht4631, ht4632, ht4633, ht4634, ht4635, ht4636, ht4637, ht4638, hB4642⟩ := show rk_10 γ (F4559 q4341) from RS_o hT4582 ht4585
    have r4643 : p4602.toInt = p4448.toInt := by have z : p4602 = p4448 := congrArg (fun e => fI e 11) (he4597.symm.trans (r4584.trans he4532)); rw [z]
    have bp4602 : gB p4602 0 100 := (hB4641.2.2.1)
    have r4644 : p4605.toInt = p4451.toInt := by have z : p4605 = p4451 := congrArg (fun e => fI e 14) (he4597.symm.trans (r4584.trans he4532)); rw [z]
    have bp4605 : gB p4605 0 2000 := (hB4641.2.2.2.1)
    have bp4605' : gB p4605 0 1999 := ⟨by omega, by omega⟩
    obtain ⟨nu4645, nu4646, nu4647, nu4648⟩ := hnu4576
    have ht4649 : rKd γ q4407 1 := x04570
    have hB4650 : rBd γ el f B := hBB4580 B hB4498
    have hph4651 : rPh γ0 el0 f ≤ rPh γ el f := by omega
    have rm4652 := rM_bd hB4650
    have rg4653 := (rM_ge hT4582 ht4586 hf4587).1
    refine G_widen (cs' := ((rPh γ el f - rPh γ0 el0 f) / 18)) (sl' := (rPh γ el f - rPh γ0 el0 f)) (by omega) (by omega) ?_
    refine G_aload_n 1 dr_cX17_load_51 rfl ?_
    refine G_dup dr_cX17_load_52 rfl ?_
    refine Gp_get 14 hm4596 he4597 dr_cX17_load_53 (gk_X17 D I) (Nat.le_of_ble_eq_true rfl) wr_7_88 rfl ?_
    refine G_iconst 1 dr_cX17_load_56 (by decide +kernel) ?_
    refine G_iadd dr_cX17_load_57 (G_nam fun z4654 hz4654 => ?_)
    have ez4654 : z4654.toInt = p4605.toInt + 1 := by rw [gI_add hz4654 bp4605' (gBl (show Int32.toInt 1 = 1 by decide)) (by decide) (by decide), show Int32.toInt 1 = 1 from by decide]
    have bz4654 : gB z4654 1 2000 := gB_add (gI_add hz4654 bp4605' (gBl (show Int32.toInt 1 = 1 by decide)) (by decide) (by decide)) bp4605' (gBl (show Int32.toInt 1 = 1 by decide)) (by decide) (by decide)
    refine Gp_put 14 hm4596 he4597 dr_cX17_load_58 (gk_X17 D I) (Nat.le_of_ble_eq_true rfl) wr_7_88 rfl rfl rfl (Nat.le_of_ble_eq_true rfl) (fun F4655 e4656 n4657 => ?_)
    have he4658 : F4655 q4341 = .inr (22, [.ref (γ 9 0), .ref (γ 9 1), .ref (γ 9 2), .ref (γ 9 3), .ref (γ 9 4), .ref (γ 9 5), .ref (γ 9 6), .ref (γ 9 7), .ref (γ 9 8), .int p4600, .int p4601, .int p4602, .int p4603, .int p4604, .int z4654, .ref (γ 9 15), .ref (γ 9 16), .ref (γ 9 17), .ref (γ 9 18), .ref (γ 9 19), .ref (γ 9 20), .ref (γ 9 21), .ref (γ 9 22), .int p4606, .int p4607, .int p4608, .int p4609, .int p4610, .ref q4598, .ref (γ 9 29), .int p4611, .ref (γ 9 31), .int p4612, .int p4613, .int p4614, .ref q4599]) := e4656
    refine G_aload 0 dr_cX17_load_61 rfl ?_
    have hT4659 : RS D I P4565 F4655 γ el := RS_set hT4582 n4657 ht4585 (by decide) ⟨q4598, q4599, p4600, p4601, p4602, p4603, p4604, z4654, p4606, p4607, p4608, p4609, p4610, p4611, p4612, p4613, p4614, he4658, ⟨(hB4641.1), (hB4641.2.1), bp4602, (gB_w bz4654 (by decide) (by decide)), (hB4641.2.2.2.2.1), (hB4641.2.2.2.2.2.1), (hB4641.2.2.2.2.2.2.1), (hB4641.2.2.2.2.2.2.2.1), (hB4641.2.2.2.2.2.2.2.2)⟩, ht4615, ht4616, ht4617, ht4618, ht4619, ht4620, ht4621, ht4622, ht4623, ht4624, ht4625, ht4626, ht4627, ht4628, ht4629, ht4630, ht4631, ht4632, ht4633, ht4634, ht4635, ht4636, ht4637, ht4638, hB4642⟩
    have hs4660 := rSk_put hs4583 hT4659 n4657 ht4585 (by decide) (by decide)
    have hm4661 : q4407 ∈ P4565 := RS_m hT4659 ht4649 (by decide)
    obtain ⟨p4663, p4664, p4665, p4666, p4667, p4668, p4669, he4662, bp4663, bp4664, bp4667, bp4668, bp4669, r4670, r4671, r4672, r4673⟩ := show rk_1 γ q4407 (F4655 q4407) from RS_o hT4659 ht4649
    have bp4665 := gB_any p4665
    have bp4666 := gB_any p4666
    refine Gp_get 1 hm4661 he4662 dr_cX17_load_63 (gk_X15 D I) (Nat.le_of_ble_eq_true rfl) wr_9_182 rfl ?_
    exact G_iretA dr_cX17_load_66 rfl (show ((rPh γ el f - rPh γ0 el0 f) / 18) ≤ (((387 * B + 6000) - rPh γ0 el0 f) / 18) by omega) (show (rPh γ el f - rPh γ0 el0 f) ≤ ((387 * B + 6000) - rPh γ0 el0 f) by omega) ⟨P4565, F4655, γ, el, p4664, rfl, rfl, hs4660, ⟨by omega, by omega⟩, hB4650, (gB_w bp4664 (by decide) (by decide))⟩
  · have r4674 : p4361.toInt = 2000 := gj_eq hc4399 (show Int32.toInt 2000 = 2000 by decide)
    have bp4361' : gB p4361 2000 2000 := ⟨by omega, by omega⟩
    refine G_iconst (-1) dr_cX17_load_10 (by decide +kernel) ?_
    exact G_iretA dr_cX17_load_11 rfl (show ((rPh γ el f - rPh γ0 el0 f) / 18) ≤ (((387 * B + 6000) - rPh γ0 el0 f) / 18) by omega) (show (rPh γ el f - rPh γ0 el0 f) ≤ ((387 * B + 6000) - rPh γ0 el0 f) by omega) ⟨P4339, F4340, γ, el, (-1), rfl, rfl, hst, ⟨by omega, by omega⟩, hB, (gB_w (gBl (show Int32.toInt (-1) = (-1) by decide)) (by decide) (by decide))⟩
