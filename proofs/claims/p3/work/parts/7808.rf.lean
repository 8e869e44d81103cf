theorem dr_cX17_load_0 : decode cX17_load 0 = .ok (.aload_n 0, 1) := by decide +kernel
theorem dr_cX17_load_1 : decode cX17_load 1 = .ok (.getfield 231, 3) := by decide +kernel
theorem wr_7_88 : (Jvm.Cond.fieldLink "SpillForgeModel" (231 : Nat) "SpillForgeModel" "temporaries" "I") ∈ gw := gw_7 88 rfl rfl
theorem dr_cX17_load_4 : decode cX17_load 4 = .ok (.sipush 2000, 3) := by decide +kernel
theorem dr_cX17_load_7 : decode cX17_load 7 = .ok (.if_icmp .ne 5, 3) := by decide +kernel
theorem dr_cX17_load_12 : decode cX17_load 12 = .ok (.aload_n 1, 1) := by decide +kernel
theorem dr_cX17_load_13 : decode cX17_load 13 = .ok (.invokevirtual 177, 3) := by decide +kernel
theorem wr_10_206 : (Jvm.Cond.methodLink "SpillForgeModel" (177 : Nat) ({ cls := "SpillForgeModel$Code", name := "row", desc := "()LSpillForgeModel$Row;" } : Jvm.MethodName)) ∈ gw := gw_10 206 rfl rfl
theorem wr_10_82 : (Jvm.Cond.code ({ cls := "SpillForgeModel$Code", name := "row", desc := "()LSpillForgeModel$Row;" } : Jvm.MethodName) prog_16_method_4_code (2 : Nat) (Option.some (Jvm.ClassFile.FieldType.object "SpillForgeModel$Row"))) ∈ gw := gw_10 82 rfl rfl
theorem wr_10_80 : (Jvm.Cond.instanceMethod ({ cls := "SpillForgeModel$Code", name := "row", desc := "()LSpillForgeModel$Row;" } : Jvm.MethodName)) ∈ gw := gw_10 80 rfl rfl
theorem wr_10_81 : (Jvm.Cond.selects "SpillForgeModel$Code" ({ cls := "SpillForgeModel$Code", name := "row", desc := "()LSpillForgeModel$Row;" } : Jvm.MethodName) ({ cls := "SpillForgeModel$Code", name := "row", desc := "()LSpillForgeModel$Row;" } : Jvm.MethodName)) ∈ gw := gw_10 81 rfl rfl
theorem dr_cX17_load_16 : decode cX17_load 16 = .ok (.astore 5, 2) := by decide +kernel
theorem dr_cX17_load_18 : decode cX17_load 18 = .ok (.aload 5, 2) := by decide +kernel
theorem dr_cX17_load_20 : decode cX17_load 20 = .ok (.bipush 21, 2) := by decide +kernel
theorem dr_cX17_load_22 : decode cX17_load 22 = .ok (.putfield 39, 3) := by decide +kernel
theorem dr_cX17_load_25 : decode cX17_load 25 = .ok (.aload 5, 2) := by decide +kernel
theorem dr_cX17_load_27 : decode cX17_load 27 = .ok (.aload_n 0, 1) := by decide +kernel
theorem dr_cX17_load_28 : decode cX17_load 28 = .ok (.getfield 231, 3) := by decide +kernel
theorem dr_cX17_load_31 : decode cX17_load 31 = .ok (.putfield 52, 3) := by decide +kernel
theorem dr_cX17_load_34 : decode cX17_load 34 = .ok (.aload 5, 2) := by decide +kernel
theorem dr_cX17_load_36 : decode cX17_load 36 = .ok (.iload 4, 2) := by decide +kernel
theorem dr_cX17_load_38 : decode cX17_load 38 = .ok (.putfield 45, 3) := by decide +kernel
theorem dr_cX17_load_41 : decode cX17_load 41 = .ok (.aload_n 2, 1) := by decide +kernel
theorem dr_cX17_load_42 : decode cX17_load 42 = .ok (.getfield 117, 3) := by decide +kernel
theorem dr_cX17_load_45 : decode cX17_load 45 = .ok (.iload_n 3, 1) := by decide +kernel
theorem dr_cX17_load_46 : decode cX17_load 46 = .ok (.aload 5, 2) := by decide +kernel
theorem dr_cX17_load_48 : decode cX17_load 48 = .ok (.invokevirtual 181, 3) := by decide +kernel
theorem wr_10_207 : (Jvm.Cond.methodLink "SpillForgeModel" (181 : Nat) ({ cls := "java/util/ArrayList", name := "add", desc := "(ILjava/lang/Object;)V" } : Jvm.MethodName)) ∈ gw := gw_10 207 rfl rfl
theorem wr_10_210 : (Jvm.Cond.code ({ cls := "java/util/ArrayList", name := "add", desc := "(ILjava/lang/Object;)V" } : Jvm.MethodName) prog_43_method_26_code (5 : Nat) (Option.none : Option Jvm.ClassFile.FieldType)) ∈ gw := gw_10 210 rfl rfl
theorem wr_10_208 : (Jvm.Cond.instanceMethod ({ cls := "java/util/ArrayList", name := "add", desc := "(ILjava/lang/Object;)V" } : Jvm.MethodName)) ∈ gw := gw_10 208 rfl rfl
theorem wr_10_209 : (Jvm.Cond.selects "java/util/ArrayList" ({ cls := "java/util/ArrayList", name := "add", desc := "(ILjava/lang/Object;)V" } : Jvm.MethodName) ({ cls := "java/util/ArrayList", name := "add", desc := "(ILjava/lang/Object;)V" } : Jvm.MethodName)) ∈ gw := gw_10 209 rfl rfl
theorem dr_cX17_load_51 : decode cX17_load 51 = .ok (.aload_n 0, 1) := by decide +kernel
theorem dr_cX17_load_52 : decode cX17_load 52 = .ok (.dup, 1) := by decide +kernel
theorem dr_cX17_load_53 : decode cX17_load 53 = .ok (.getfield 231, 3) := by decide +kernel
theorem dr_cX17_load_56 : decode cX17_load 56 = .ok (.iconst 1, 1) := by decide +kernel
theorem dr_cX17_load_57 : decode cX17_load 57 = .ok (.iadd, 1) := by decide +kernel
theorem dr_cX17_load_58 : decode cX17_load 58 = .ok (.putfield 231, 3) := by decide +kernel
theorem dr_cX17_load_61 : decode cX17_load 61 = .ok (.aload 5, 2) := by decide +kernel
theorem dr_cX17_load_63 : decode cX17_load 63 = .ok (.getfield 52, 3) := by decide +kernel
theorem dr_cX17_load_66 : decode cX17_load 66 = .ok (.ireturn, 1) := by decide +kernel
theorem dr_cX17_load_10 : decode cX17_load 10 = .ok (.iconst (-1), 1) := by decide +kernel
theorem dr_cX17_load_11 : decode cX17_load 11 = .ok (.ireturn, 1) := by decide +kernel
theorem dr_cX13_copy_0 : decode cX13_copy 0 = .ok (.aload_n 0, 1) := by decide +kernel
theorem dr_cX13_copy_1 : decode cX13_copy 1 = .ok (.invokevirtual 73, 3) := by decide +kernel
theorem wr_10_136 : (Jvm.Cond.methodLink "SpillForgeModel$Code" (73 : Nat) ({ cls := "SpillForgeModel$Code", name := "begin", desc := "()V" } : Jvm.MethodName)) ∈ gw := gw_10 136 rfl rfl
theorem wr_9_88 : (Jvm.Cond.code ({ cls := "SpillForgeModel$Code", name := "begin", desc := "()V" } : Jvm.MethodName) prog_16_method_2_code (1 : Nat) (Option.none : Option Jvm.ClassFile.FieldType)) ∈ gw := gw_9 88 rfl rfl
theorem wr_9_86 : (Jvm.Cond.instanceMethod ({ cls := "SpillForgeModel$Code", name := "begin", desc := "()V" } : Jvm.MethodName)) ∈ gw := gw_9 86 rfl rfl
theorem wr_9_87 : (Jvm.Cond.selects "SpillForgeModel$Code" ({ cls := "SpillForgeModel$Code", name := "begin", desc := "()V" } : Jvm.MethodName) ({ cls := "SpillForgeModel$Code", name := "begin", desc := "()V" } : Jvm.MethodName)) ∈ gw := gw_9 87 rfl rfl
theorem dr_cX13_copy_4 : decode cX13_copy 4 = .ok (.iconst 0, 1) := by decide +kernel
theorem dr_cX13_copy_5 : decode cX13_copy 5 = .ok (.istore_n 2, 1) := by decide +kernel
theorem dr_cX13_copy_6 : decode cX13_copy 6 = .ok (.iload_n 2, 1) := by decide +kernel
theorem dr_cX13_copy_7 : decode cX13_copy 7 = .ok (.aload_n 1, 1) := by decide +kernel
theorem dr_cX13_copy_8 : decode cX13_copy 8 = .ok (.invokevirtual 76, 3) := by decide +kernel
theorem wr_10_137 : (Jvm.Cond.methodLink "SpillForgeModel$Code" (76 : Nat) ({ cls := "SpillForgeModel$Code", name := "size", desc := "()I" } : Jvm.MethodName)) ∈ gw := gw_10 137 rfl rfl
theorem dr_cX13_copy_11 : decode cX13_copy 11 = .ok (.if_icmp .ge 106, 3) := by decide +kernel
theorem dr_cX13_copy_117 : decode cX13_copy 117 = .ok (.return_, 1) := by decide +kernel
theorem dr_cX13_copy_14 : decode cX13_copy 14 = .ok (.aload_n 1, 1) := by decide +kernel
theorem dr_cX13_copy_15 : decode cX13_copy 15 = .ok (.iload_n 2, 1) := by decide +kernel
theorem dr_cX13_copy_16 : decode cX13_copy 16 = .ok (.invokevirtual 67, 3) := by decide +kernel
theorem dr_cX13_copy_19 : decode cX13_copy 19 = .ok (.astore_n 3, 1) := by decide +kernel
theorem dr_cX13_copy_20 : decode cX13_copy 20 = .ok (.aload_n 0, 1) := by decide +kernel
theorem dr_cX13_copy_21 : decode cX13_copy 21 = .ok (.invokevirtual 77, 3) := by decide +kernel
theorem wr_10_142 : (Jvm.Cond.methodLink "SpillForgeModel$Code" (77 : Nat) ({ cls := "SpillForgeModel$Code", name := "block", desc := "()LSpillForgeModel$Block;" } : Jvm.MethodName)) ∈ gw := gw_10 142 rfl rfl
theorem wr_9_156 : (Jvm.Cond.code ({ cls := "SpillForgeModel$Code", name := "block", desc := "()LSpillForgeModel$Block;" } : Jvm.MethodName) prog_16_method_3_code (2 : Nat) (Option.some (Jvm.ClassFile.FieldType.object "SpillForgeModel$Block"))) ∈ gw := gw_9 156 rfl rfl
theorem wr_9_154 : (Jvm.Cond.instanceMethod ({ cls := "SpillForgeModel$Code", name := "block", desc := "()LSpillForgeModel$Block;" } : Jvm.MethodName)) ∈ gw := gw_9 154 rfl rfl
theorem wr_9_155 : (Jvm.Cond.selects "SpillForgeModel$Code" ({ cls := "SpillForgeModel$Code", name := "block", desc := "()LSpillForgeModel$Block;" } : Jvm.MethodName) ({ cls := "SpillForgeModel$Code", name := "block", desc := "()LSpillForgeModel$Block;" } : Jvm.MethodName)) ∈ gw := gw_9 155 rfl rfl
theorem dr_cX13_copy_24 : decode cX13_copy 24 = .ok (.astore 4, 2) := by decide +kernel
theorem dr_cX13_copy_26 : decode cX13_copy 26 = .ok (.iconst 0, 1) := by decide +kernel
theorem dr_cX13_copy_27 : decode cX13_copy 27 = .ok (.istore 5, 2) := by decide +kernel
theorem dr_cX13_copy_29 : decode cX13_copy 29 = .ok (.iload 5, 2) := by decide +kernel
theorem dr_cX13_copy_31 : decode cX13_copy 31 = .ok (.aload_n 3, 1) := by decide +kernel
theorem dr_cX13_copy_32 : decode cX13_copy 32 = .ok (.getfield 41, 3) := by decide +kernel
theorem dr_cX13_copy_35 : decode cX13_copy 35 = .ok (.invokevirtual 26, 3) := by decide +kernel
theorem dr_cX13_copy_38 : decode cX13_copy 38 = .ok (.if_icmp .ge 43, 3) := by decide +kernel
theorem dr_cX13_copy_81 : decode cX13_copy 81 = .ok (.aload 4, 2) := by decide +kernel
theorem dr_cX13_copy_83 : decode cX13_copy 83 = .ok (.getfield 89, 3) := by decide +kernel
theorem wr_9_224 : (Jvm.Cond.fieldLink "SpillForgeModel$Code" (89 : Nat) "SpillForgeModel$Block" "end" "LSpillForgeModel$Row;") ∈ gw := gw_9 224 rfl rfl
theorem dr_cX13_copy_86 : decode cX13_copy 86 = .ok (.aload_n 3, 1) := by decide +kernel
theorem dr_cX13_copy_87 : decode cX13_copy 87 = .ok (.getfield 89, 3) := by decide +kernel
theorem dr_cX13_copy_90 : decode cX13_copy 90 = .ok (.invokevirtual 85, 3) := by decide +kernel
theorem wr_10_144 : (Jvm.Cond.methodLink "SpillForgeModel$Code" (85 : Nat) ({ cls := "SpillForgeModel$Row", name := "put", desc := "(LSpillForgeModel$Row;)V" } : Jvm.MethodName)) ∈ gw := gw_10 144 rfl rfl
theorem wr_10_147 : (Jvm.Cond.code ({ cls := "SpillForgeModel$Row", name := "put", desc := "(LSpillForgeModel$Row;)V" } : Jvm.MethodName) prog_18_method_6_code (2 : Nat) (Option.none : Option Jvm.ClassFile.FieldType)) ∈ gw := gw_10 147 rfl rfl
theorem wr_10_145 : (Jvm.Cond.instanceMethod ({ cls := "SpillForgeModel$Row", name := "put", desc := "(LSpillForgeModel$Row;)V" } : Jvm.MethodName)) ∈ gw := gw_10 145 rfl rfl
theorem wr_10_146 : (Jvm.Cond.selects "SpillForgeModel$Row" ({ cls := "SpillForgeModel$Row", name := "put", desc := "(LSpillForgeModel$Row;)V" } : Jvm.MethodName) ({ cls := "SpillForgeModel$Row", name := "put", desc := "(LSpillForgeModel$Row;)V" } : Jvm.MethodName)) ∈ gw := gw_10 146 rfl rfl
theorem dr_cX13_copy_93 : decode cX13_copy 93 = .ok (.aload 4, 2) := by decide +kernel
theorem dr_cX13_copy_95 : decode cX13_copy 95 = .ok (.aload_n 3, 1) := by decide +kernel
theorem dr_cX13_copy_96 : decode cX13_copy 96 = .ok (.getfield 93, 3) := by decide +kernel
theorem wr_9_227 : (Jvm.Cond.fieldLink "SpillForgeModel$Code" (93 : Nat) "SpillForgeModel$Block" "first" "I") ∈ gw := gw_9 227 rfl rfl
theorem dr_cX13_copy_99 : decode cX13_copy 99 = .ok (.putfield 93, 3) := by decide +kernel
theorem dr_cX13_copy_102 : decode cX13_copy 102 = .ok (.aload 4, 2) := by decide +kernel
theorem dr_cX13_copy_104 : decode cX13_copy 104 = .ok (.aload_n 3, 1) := by decide +kernel
theorem dr_cX13_copy_105 : decode cX13_copy 105 = .ok (.getfield 96, 3) := by decide +kernel
theorem wr_9_231 : (Jvm.Cond.fieldLink "SpillForgeModel$Code" (96 : Nat) "SpillForgeModel$Block" "second" "I") ∈ gw := gw_9 231 rfl rfl
theorem dr_cX13_copy_108 : decode cX13_copy 108 = .ok (.putfield 96, 3) := by decide +kernel
theorem dr_cX13_copy_111 : decode cX13_copy 111 = .ok (.iinc 2 1, 3) := by decide +kernel
theorem dr_cX13_copy_114 : decode cX13_copy 114 = .ok (.goto (-108), 3) := by decide +kernel
theorem dr_cX13_copy_41 : decode cX13_copy 41 = .ok (.aload_n 0, 1) := by decide +kernel
theorem dr_cX13_copy_42 : decode cX13_copy 42 = .ok (.invokevirtual 81, 3) := by decide +kernel
theorem wr_10_143 : (Jvm.Cond.methodLink "SpillForgeModel$Code" (81 : Nat) ({ cls := "SpillForgeModel$Code", name := "row", desc := "()LSpillForgeModel$Row;" } : Jvm.MethodName)) ∈ gw := gw_10 143 rfl rfl
theorem dr_cX13_copy_45 : decode cX13_copy 45 = .ok (.astore 6, 2) := by decide +kernel
theorem dr_cX13_copy_47 : decode cX13_copy 47 = .ok (.aload 6, 2) := by decide +kernel
theorem dr_cX13_copy_49 : decode cX13_copy 49 = .ok (.aload_n 3, 1) := by decide +kernel
theorem dr_cX13_copy_50 : decode cX13_copy 50 = .ok (.getfield 41, 3) := by decide +kernel
theorem dr_cX13_copy_53 : decode cX13_copy 53 = .ok (.iload 5, 2) := by decide +kernel
theorem dr_cX13_copy_55 : decode cX13_copy 55 = .ok (.invokevirtual 37, 3) := by decide +kernel
theorem dr_cX13_copy_58 : decode cX13_copy 58 = .ok (.checkcast 45, 3) := by decide +kernel
theorem dr_cX13_copy_61 : decode cX13_copy 61 = .ok (.invokevirtual 85, 3) := by decide +kernel
theorem dr_cX13_copy_64 : decode cX13_copy 64 = .ok (.aload 4, 2) := by decide +kernel
theorem dr_cX13_copy_66 : decode cX13_copy 66 = .ok (.getfield 41, 3) := by decide +kernel
theorem dr_cX13_copy_69 : decode cX13_copy 69 = .ok (.aload 6, 2) := by decide +kernel
theorem dr_cX13_copy_71 : decode cX13_copy 71 = .ok (.invokevirtual 33, 3) := by decide +kernel
theorem dr_cX13_copy_74 : decode cX13_copy 74 = .ok (.pop, 1) := by decide +kernel
theorem dr_cX13_copy_75 : decode cX13_copy 75 = .ok (.iinc 5 1, 3) := by decide +kernel
theorem dr_cX13_copy_78 : decode cX13_copy 78 = .ok (.goto (-49), 3) := by decide +kernel
abbrev ky_189887_Code_copy : gKey := (cX13_copy, 7, "SpillForgeModel$Code", none, [], "copy", fun _ _ => True)
def pg_189887_Code_copy (D : va_G) (I : FieldType → ClassId) (γ0 el0 : Nat → Nat → Nat) (f : Nat) (fo : Nat) (B : Nat) (P189880 : List Nat) (F189881 : Nat → va_E) (q189882 : Nat) (q189883 : Nat) : Option Value → va_W → Nat → Nat → Prop := fun r w dc ds => ∃ (P204237 : List Nat) (F204238 : Nat → va_E) (γ el : Nat → Nat → Nat), r = none ∧ w = va_pl P204237 F204238 ∧ rSk f [1, 2, 3, 101, 102, 103, 202] ([1, 2, 3, 4, 5, 6, 7, 8, 9, 101, 102, 103, 202]) D I P189880 F189881 γ0 el0 P204237 F204238 γ el ∧ (18 * dc + rPh γ0 el0 f ≤ rPh γ el f ∧ ds + rPh γ0 el0 f ≤ rPh γ el f) ∧ rBd γ el f B ∧ γ 6 f = γ0 6 fo ∧ γ 7 f = 0 ∧ γ 16 f ≤ γ0 16 fo ∧ γ 18 f = 0
set_option maxRecDepth 100000 in
set_option maxHeartbeats 1500000 in
theorem cg_189887_Code_copy (l : Launch) (hl0 : l.stackTraces = false) (D : va_G) (I : FieldType → ClassId) (γ0 el0 : Nat → Nat → Nat) (f : Nat) (fo : Nat) (B : Nat) (P189880 : List Nat) (F189881 : Nat → va_E) (q189882 : Nat) (q189883 : Nat) (hT0 : RS D I P189880 F189881 γ0 el0) (hzq189882 : rKd γ0 q189882 9) (hzq189883 : rKd γ0 q189883 9) (hf0 : γ0 1 q189882 = f) (hfo0 : γ0 1 q189883 = fo) (hne : fo ≠ f) (hB0 : rBd γ0 el0 f B) (hBk : B ≤ 100000) (x189884 : 0 < γ0 6 fo) (x189885 : γ0 7 fo = 0) (x189886 : γ0 16 fo ≤ B) : CtA (gV D I) l yX13_copy cX13_copy 7 none 8 170 (((387 * B + 6000) - rPh γ0 el0 f) / 18) ((387 * B + 6000) - rPh γ0 el0 f) [.ref q189882, .ref q189883] (va_pl P189880 F189881) (pg_189887_Code_copy D I γ0 el0 f fo B P189880 F189881 q189882 q189883) gNA := by
  refine CtA_of hl0 (by decide) (Nat.le_of_ble_eq_true rfl) ?_
  obtain ⟨γ, hγ0⟩ : ∃ z, z = γ0 := ⟨_, rfl⟩
  obtain ⟨el, hel0⟩ : ∃ z, z = el0 := ⟨_, rfl⟩
  have hT : RS D I P189880 F189881 γ el := by rw [hγ0, hel0]; exact hT0
  have hst : rSk f [1, 2, 3, 101, 102, 103, 202] ([1, 2, 3, 4, 5, 6, 7, 8, 9, 101, 102, 103, 202]) D I P189880 F189881 γ0 el0 P189880 F189881 γ el := by rw [hγ0, hel0]; exact rSk_rf hT0
  have hph : rPh γ0 el0 f ≤ rPh γ el f := by rw [hγ0, hel0]; exact Nat.le_refl _
  have hB : rBd γ el f B := by rw [hγ0, hel0]; exact hB0
  have htq189882 : rKd γ q189882 9 := by rw [hγ0]; exact hzq189882
  have htq189883 : rKd γ q189883 9 := by rw [hγ0]; exact hzq189883
  have hf1 : γ 1 q189882 = f := by rw [hγ0]; exact hf0
  have hfo1 : γ 1 q189883 = fo := by rw [hγ0]; exact hfo0
  have x189884n : 0 < γ 6 fo := by rw [hγ0]; exact x189884
  have x189885n : γ 7 fo = 0 := by rw [hγ0]; exact x189885
  have x189886n : γ 16 fo ≤ B := by rw [hγ0]; exact x189886
  have pk189888 : rPh γ el f ≤ 387 * B + 6000 := rm_pk (rM_ge hT htq189882 hf1).1 (rM_bd hB)
  refine G_widen (cs' := ((rPh γ el f - rPh γ0 el0 f) / 18)) (sl' := (rPh γ el f - rPh γ0 el0 f)) (Nat.zero_le _) (Nat.zero_le _) ?_
  have r189889 := rSk_g hst hne
  have r189890 : 0 < γ 6 (γ 1 q189883) := by rw [hfo1, r189889.1]; exact x189884
  have r189891 : γ 6 fo = γ0 6 fo := r189889.1
  have r189892 : γ 7 fo = 0 := by rw [r189889.2.1]; exact x189885
  refine G_aload_n 0 dr_cX13_copy_0 rfl ?_
  have rg189893 := rM_ge hT htq189882 hf1
  have rm189894 := rM_bd hB
  have bd189895 := rBd_c hT htq189882 hf1 hB
  refine Gt_beg (c := q189882) (f := f) (γ0 6 fo) hl0 dr_cX13_copy_1 ⟨wr_10_136, wr_1_15, wr_9_88, by decide, rfl, (Nat.le_of_ble_eq_true rfl), (Nat.le_of_ble_eq_true rfl)⟩ wr_9_86 wr_9_87 hT htq189882 hf1 (rm_zc pk189888) (rm_zs pk189888) (Nat.le_of_ble_eq_true rfl) (fun F189896 γ el hq189897 => ?_)
  obtain ⟨hk189898, h6189899, h7189900, h16189901, h18189902, h19189903, h23189904, h2189905, hel189906, hmd189907, hr189908, hM189909, hBB189910⟩ := hq189897
  have hk189911 := rSk_of hk189898
  have hT189912 := hk189911.1
  have hs189913 := rSk_tr hst hk189911 (by decide) (by decide) (by decide)
  have ht189914 : rKd γ q189882 9 := rSk_k hk189911 htq189882 (by decide) (by decide)
  have hf189915 : γ 1 q189882 = f := rSk_1 hk189911 htq189882 (by decide) hf1
  have ht189916 : rKd γ q189883 9 := rSk_kf hk189911 htq189883 (by decide) (by rw [hfo1]; exact hne)
  have hf189917 : γ 1 q189883 = fo := rSk_1 hk189911 htq189883 (by decide) hfo1
  clear rg189893 rm189894 bd189895
  have r189918 := rSk_g hs189913 hne
  have r189919 : 0 < γ 6 (γ 1 q189883) := by rw [hf189917, r189918.1]; exact x189884
  have r189920 : γ 6 fo = γ0 6 fo := r189918.1
  have r189921 : γ 7 fo = 0 := by rw [r189918.2.1]; exact x189885
  have hB189922 : rBd γ el f B := hBB189910 B hB
  have hph189923 : rPh γ0 el0 f ≤ rPh γ el f := by rw [hr189908]; exact hph
  have pk189924 : rPh γ el f ≤ 387 * B + 6000 := rm_pk (rM_ge hT189912 ht189914 hf189915).1 (rM_bd hB189922)
  refine G_widen (cs' := ((rPh γ el f - rPh γ0 el0 f) / 18)) (sl' := (rPh γ el f - rPh γ0 el0 f)) (rm_ec hr189908) (rm_es hr189908) ?_
  refine G_iconst 0 dr_cX13_copy_4 (by decide +kernel) ?_
  refine G_istore_n (L' := [(2, .int 0), (0, .ref q189882), (1, .ref q189883)]) dr_cX13_copy_5 (Nat.le_of_ble_eq_true rfl) rfl ?_
  have hlp6_203164 : ∀ (n6_203164 : Nat) (P203151 : List Nat) (F203152 : Nat → va_E) (γ el : Nat → Nat → Nat) (g203150 : Int32), gB g203150 0 1000000 → RS D I P203151 F203152 γ el → rSk f [1, 2, 3, 101, 102, 103, 202] ([1, 2, 3, 4, 5, 6, 7, 8, 9, 101, 102, 103, 202]) D I P189880 F189881 γ0 el0 P203151 F203152 γ el → rPh γ0 el0 f ≤ rPh γ el f → rBd γ el f B → γ 6 f = 0 → γ 19 f = γ0 6 fo → γ 18 f = 0 → γ 7 f = 0 → (fI (F203152 q189882) 3).toInt = g203150.toInt → rKb γ el q189882 (g203150.toInt : Int).toNat → γ 16 f ≤ rsum (fun i => γ0 2 (γ0 14 (el0 (γ0 14 q189883) i))) (g203150.toInt : Int).toNat → (g203150.toInt : Int) ≤ γ0 6 fo → (γ0 6 fo - (g203150.toInt : Int).toNat) < n6_203164 → G (gV D I) l (gRm 8 170 (((387 * B + 6000) - rPh γ0 el0 f) / 18) ((387 * B + 6000) - rPh γ0 el0 f)) (gMA (gV D I) (pg_189887_Code_copy D I γ0 el0 f fo B P189880 F189881 q189882 q189883) gNA (((387 * B + 6000) - rPh γ0 el0 f) / 18) ((387 * B + 6000) - rPh γ0 el0 f)) ky_189887_Code_copy 6 [(2, .int g203150), (0, .ref q189882), (1, .ref q189883)] [] (va_pl P203151 F203152) ((rPh γ el f - rPh γ0 el0 f) / 18) (rPh γ el f - rPh γ0 el0 f) := by
    intro n6_203164
    induction n6_203164 with
    | zero => intro P203151 F203152 γ el g203150 bg203150 hT203153 hs203154 hph203155 hB203156 x203157 x203158 x203159 x203160 x203161 x203162 x203163 x203164 hm6_203164; exact absurd hm6_203164 (Nat.not_lt_zero _)
    | succ n6_203164 ih6_203164 =>
      intro P203151 F203152 γ el g203150 bg203150 hT203153 hs203154 hph203155 hB203156 x203157 x203158 x203159 x203160 x203161 x203162 x203163 x203164 hm6_203164
      clear h6189899 h7189900 h16189901 h18189902 h19189903 h23189904 h2189905 hmd189907 hr189908 hM189909 r189918 r189919 r189920 r189921 hph189923 pk189924
      have ht203166 : rKd γ q189882 9 := rSk_k hs203154 hzq189882 (by decide) (by decide)
      have hf203167 : γ 1 q189882 = f := rSk_1 hs203154 hzq189882 (by decide) hf0
      have ht203168 : rKd γ q189883 9 := rSk_k hs203154 hzq189883 (by decide) (by decide)
      have hf203169 : γ 1 q189883 = fo := rSk_1 hs203154 hzq189883 (by decide) hfo0
      have pk203170 : rPh γ el f ≤ 387 * B + 6000 := rm_pk (rM_ge hT203153 ht203166 hf203167).1 (rM_bd hB203156)
      have r203171 := rSk_g hs203154 hne
      have r203172 : 0 < γ 6 (γ 1 q189883) := by rw [hf203169, r203171.1]; exact x189884
      have r203173 : γ 6 fo = γ0 6 fo := r203171.1
      have r203174 : γ 7 fo = 0 := by rw [r203171.2.1]; exact x189885
      refine G_iload_n 0 dr_cX13_copy_6 rfl ?_
      refine G_aload_n 2 dr_cX13_copy_7 rfl ?_
      have hm203175 : q189883 ∈ P203151 := RS_m hT203153 ht203168 (by decide)
      obtain ⟨q203177, q203178, p203179, p203180, he203176, ht203196, ht203181, ht203182, ht203183, ht203184, r203185, r203186, r203187, r203188, r203189, r203190, r203191, r203192, r203193, r203194, r203195⟩ := show rk_9 γ el q189883 (F203152 q189883) from RS_o hT203153 ht203168
      have bp203179 : gB p203179 0 1000000 := ⟨by omega, by omega⟩
      have bp203180 : gB p203180 0 1000000 := ⟨by omega, by omega⟩
      have hf203197 : γ 1 q203177 = fo := (show γ 1 q203177 = γ 1 q189883 from ht203182).trans hf203169
      have hf203198 : γ 1 q203178 = fo := (show γ 1 q203178 = γ 1 q189883 from ht203184).trans hf203169
      have r203199 : γ 6 (γ 1 q189883) = γ 6 fo := by rw [hf203169]
      have r203200 : γ 16 (γ 1 q189883) = γ 16 fo := by rw [hf203169]
      have r203201 : p203180.toInt = γ 6 fo ∧ p203180.toInt ≤ 40 := by omega
      clear r203191
      refine Gw_callV (As := []) (gV_ok D I) (cp_12496_Code_size l hl0 D I P203151 F203152 q189883 q203177 q203178 p203179 p203180 hm203175 he203176) dr_cX13_copy_8 ⟨wr_10_137, wr_1_15, wr_9_131, by decide, rfl, (Nat.le_of_ble_eq_true rfl), (Nat.le_of_ble_eq_true rfl)⟩ wr_9_129 wr_9_130 hm203175 he203176 rfl (rm_zc pk203170) (rm_zs pk203170) (Nat.le_of_ble_eq_true rfl) (fun r203205 w203206 dc203202 ds203203 hp203204 => ?_) (fun _ _ _ _ _ z => z.elim)
      obtain ⟨rfl, rfl, hdc, hds⟩ := hp203204
      change G _ _ _ _ _ _ _ (.int p203180 :: _) _ _ _
      refine G_widen (cs' := ((rPh γ el f - rPh γ0 el0 f) / 18)) (sl' := (rPh γ el f - rPh γ0 el0 f)) (rm_d0 hdc) (rm_d0 hds) ?_
      refine G_icmp_ge 117 dr_cX13_copy_11 (by decide +kernel) (fun hc203207 => ?_) (fun hc203207 => ?_)
      · have r203208 : p203180.toInt ≤ g203150.toInt := gC_le hc203207
        have r203209 := RS_valid hT0 hzq189883 hfo0 x189884
        have r203210 : (g203150.toInt : Int).toNat = γ0 6 fo := by omega
        have kb203211 := x203162
        rw [r203210] at kb203211
        have hv203212 := St_val (f := f) (n := γ0 6 fo) hT203153 ht203166 hf203167 (by omega) x189884 (by omega) (by omega) (by omega) kb203211
        obtain ⟨γ, hg203213⟩ : ∃ z, z = gVal γ 6 f (γ0 6 fo) := ⟨_, rfl⟩
        rw [← hg203213] at hv203212
        have hk203214 := rSk_of hv203212.1
        have r203215 := hv203212.2.1
        have hT203216 := hk203214.1
        have hs203217 := rSk_tr hs203154 hk203214 (by decide) (by decide) (by decide)
        have ht203218 : rKd γ q189882 9 := rSk_k hk203214 ht203166 (by decide) (by decide)
        have hf203219 : γ 1 q189882 = f := rSk_1 hk203214 ht203166 (by decide) hf203167
        have ht203220 : rKd γ q189883 9 := rSk_kf hk203214 ht203168 (by decide) (by rw [hf203169]; exact hne)
        have hf203221 : γ 1 q189883 = fo := rSk_1 hk203214 ht203168 (by decide) hf203169
        have kb203222 : rKb γ el q189882 (g203150.toInt : Int).toNat := rKb_t x203162 hk203214 (by decide) (rSk_s hk203214 ht203166 (by decide)).2.1 (fun _ _ => rfl)
        clear r203185 r203186 r203187 r203188 r203189 r203190 r203192 r203193 r203194 r203195 bp203179 bp203180
        have r203223 := rSk_g hs203217 hne
        have r203224 : 0 < γ 6 (γ 1 q189883) := by rw [hf203221, r203223.1]; exact x189884
        have r203225 : γ 6 fo = γ0 6 fo := r203223.1
        have r203226 : γ 7 fo = 0 := by rw [r203223.2.1]; exact x189885
        have hB203227 : rBd γ el f B := hv203212.2.2.2 B hB203156
        have hph203228 : rPh γ0 el0 f ≤ rPh γ el f := by rw [r203215]; exact hph203155
        have pk203229 : rPh γ el f ≤ 387 * B + 6000 := rm_pk (rM_ge hT203216 ht203218 hf203219).1 (rM_bd hB203227)
        refine G_widen (cs' := ((rPh γ el f - rPh γ0 el0 f) / 18)) (sl' := (rPh γ el f - rPh γ0 el0 f)) (rm_ec r203215) (rm_es r203215) ?_
        have r203230 := gVal_n hg203213
        have r203231 := rsum_m (f := fun i => γ0 2 (γ0 14 (el0 (γ0 14 q189883) i))) _ (show (g203150.toInt : Int).toNat ≤ γ0 6 fo by omega)
        exact G_vretA dr_cX13_copy_117 rfl (show ((rPh γ el f - rPh γ0 el0 f) / 18) ≤ (((387 * B + 6000) - rPh γ0 el0 f) / 18) by omega) (show (rPh γ el f - rPh γ0 el0 f) ≤ ((387 * B + 6000) - rPh γ0 el0 f) by omega) ⟨P203151, F203152, γ, el, rfl, rfl, hs203217, ⟨by omega, by omega⟩, hB203227, (by omega), (by omega), (by omega), (by omega)⟩
      · have r203232 : g203150.toInt < p203180.toInt := gC_nle hc203207
        have bg203150' : gB g203150 0 999999 := ⟨by omega, by omega⟩
        have bp203180' : gB p203180 1 1000000 := ⟨by omega, by omega⟩
        refine G_aload_n 2 dr_cX13_copy_14 rfl ?_
        refine G_iload_n 0 dr_cX13_copy_15 rfl ?_
        have hm203233 : q203177 ∈ P203151 := RS_m hT203153 ht203181 (by decide)
        obtain ⟨⟨p203235, p203236, q203237, he203234, r203238, r203239, r203240, r203242⟩, r203241⟩ := show rk_4 D I γ el F203152 q203177 from RS_o hT203153 ht203181
        have bp203235 := gB_any p203235
        have bp203236 : gB p203236 0 1000000 := ⟨by omega, by omega⟩
        obtain ⟨r203243, r203244, n203251, f203252, r203245, r203246, r203247, r203248, r203249, r203250⟩ := rLC_n r203240 (by omega)
        have hm203253 : q203237 ∈ P203151 := RS_m hT203153 r203243 (by decide)
        obtain ⟨q203254, hx203255⟩ : ∃ x, x = el q203177 g203150.toInt.toNat := ⟨_, rfl⟩
        have hx203256 : f203252 g203150.toNatClampNeg = some q203254 := (r203249 _ (show g203150.toInt.toNat < γ 2 q203177 by first | assumption | omega)).trans (by rw [hx203255])
        have ht203259 : rKd γ q203254 2 := by rw [hx203255]; exact (r203192 _ (by omega)).resolve_right (fun z => absurd z.1 (by omega))
        have ht203260 : rFm γ q203254 q203177 := by rw [hx203255]; exact (r203241 _ (show g203150.toInt.toNat < γ 2 q203177 by omega)).2.1
        have hm203261 : q203254 ∈ P203151 := RS_m hT203153 ht203259 (by decide)
        obtain ⟨q203263, q203264, p203265, p203266, he203262, ht203273, ht203267, ht203268, ht203269, ht203270, ht203271, bp203265, bp203266, r203272, r203274, r203275⟩ := show rk_2 γ q203254 (F203152 q203254) from RS_o hT203153 ht203259
        refine Gw_callV (As := [.int g203150]) (gV_ok D I) (cp_7737_Code_get l hl0 D I P203151 F203152 q189883 q203177 q203237 g203150 q203178 p203179 p203180 p203235 p203236 f203252 n203251 q203254 q203263 q203264 p203265 p203266 hm203175 hm203233 hm203253 hm203261 he203176 he203234 r203245 he203262 (gB_w bg203150' (by decide) (by decide)) (gB_w bp203236 (by decide) (by decide)) (by omega) (by omega) (by assumption) (by omega)) dr_cX13_copy_16 ⟨wr_10_138, wr_1_15, wr_10_141, by decide, rfl, (Nat.le_of_ble_eq_true rfl), (Nat.le_of_ble_eq_true rfl)⟩ wr_10_139 wr_10_140 hm203175 he203176 rfl (rm_zc pk203170) (rm_zs pk203170) (Nat.le_of_ble_eq_true rfl) (fun r203279 w203280 dc203276 ds203277 hp203278 => ?_) (fun _ _ _ _ _ z => z.elim)
        obtain ⟨rfl, rfl, hdc, hds⟩ := hp203278
        change G _ _ _ _ _ _ _ (.ref q203254 :: _) _ _ _
        refine G_widen (cs' := ((rPh γ el f - rPh γ0 el0 f) / 18)) (sl' := (rPh γ el f - rPh γ0 el0 f)) (rm_d0 hdc) (rm_d0 hds) ?_
        have r203281 := RS_valid hT0 hzq189883 hfo0 x189884
        have r203282 := rSk_o (i := g203150.toInt.toNat) hT0 hs203154 hzq189883 (by rw [hfo0]; exact hne)
        have hx0203283 : q203254 = el0 (γ0 14 q189883) (g203150.toInt : Int).toNat := by rw [hx203255, ← ht203196.1, r203282.1, r203282.2.2.1]
        have hf203284 : γ 1 q203254 = fo := (show γ 1 q203254 = γ 1 q203177 from ht203260).trans ((show γ 1 q203177 = γ 1 q189883 from ht203182).trans hf203169)
        refine G_astore_n (L' := [(3, .ref q203254), (2, .int g203150), (0, .ref q189882), (1, .ref q189883)]) dr_cX13_copy_19 (Nat.le_of_ble_eq_true rfl) rfl ?_
        refine G_aload_n 2 dr_cX13_copy_20 rfl ?_
        have rg203285 := rM_ge hT203153 ht203166 hf203167
        have rm203286 := rM_bd hB203156
        have bd203287 := rBd_c hT203153 ht203166 hf203167 hB203156
        refine Gt_block (c := q189882) (f := f) hl0 dr_cX13_copy_21 ⟨wr_10_142, wr_1_15, wr_9_156, by decide, rfl, (Nat.le_of_ble_eq_true rfl), (Nat.le_of_ble_eq_true rfl)⟩ wr_9_154 wr_9_155 hT203153 ht203166 hf203167 (by omega) (Nat.le_trans bd203287.2.1 (by decide)) (rm_cs hph203155 rg203285.1 rm203286 (by decide)) (rm_sl hph203155 rg203285.1 rm203286 rm_s25) (Nat.le_of_ble_eq_true rfl) (fun P203288 F203289 γ el q203290 dc203291 ds203292 hq203293 => ?_)
        obtain ⟨hk203294, b0203295, b1203296, ⟨jb203297, j1203298, j2203299, j3203300, j4203301, j5203302, j6203303⟩, hz203304, h16203305, h18203306, hnu203307, hot203308, h45203309, ⟨hr1203310, hr2203311⟩, hM203312, hBB203313⟩ := hq203293
        have hk203314 := rSk_of hk203294
        have hT203315 := hk203314.1
        have hs203316 := rSk_tr hs203154 hk203314 (by decide) (by decide) (by decide)
        have ht203317 : rKd γ q189882 9 := rSk_k hk203314 ht203166 (by decide) (by decide)
        have hf203318 : γ 1 q189882 = f := rSk_1 hk203314 ht203166 (by decide) hf203167
        have ht203319 : rKd γ q189883 9 := rSk_kf hk203314 ht203168 (by decide) (by rw [hf203169]; exact hne)
        have hf203320 : γ 1 q189883 = fo := rSk_1 hk203314 ht203168 (by decide) hf203169
        have ht203321 : rKd γ q203254 2 := rSk_kf hk203314 ht203259 (by decide) (by rw [hf203284]; exact hne)
        have hf203322 : γ 1 q203254 = fo := rSk_1 hk203314 ht203259 (by decide) hf203284
        have kb203323 : rKb γ el q189882 (g203150.toInt : Int).toNat := rKb_t x203162 hk203314 (by decide) (rSk_s hk203314 ht203166 (by decide)).2.1 (fun i hi => j6203303 i (by omega))
        clear r203185 r203186 r203187 r203188 r203189 r203190 r203192 r203193 r203194 r203195 bp203179 bp203180 bp203265 bp203266 r203274 r203275 rg203285 rm203286 bd203287
        clear r203272
        have r203324 := rSk_g hs203316 hne
        have r203325 : 0 < γ 6 (γ 1 q189883) := by rw [hf203320, r203324.1]; exact x189884
        have r203326 : γ 6 fo = γ0 6 fo := r203324.1
        have r203327 : γ 7 fo = 0 := by rw [r203324.2.1]; exact x189885
        have r203329 := RS_valid hT0 hzq189883 hfo0 x189884
        have r203328 := (rSk_o (i := g203150.toInt.toNat) hT0 hs203316 hzq189883 (by rw [hfo0]; exact hne)).2.2.2 (by omega)
        rw [← hx0203283] at r203328
        have xs203330 : γ 2 (γ 14 q203254) = γ0 2 (γ0 14 q203254) := by rw [r203328.1]; exact r203328.2.1
        have hB203331 : rBd γ el f B := hBB203313 B (by omega) hB203156
        have r203332 := (rSk_s hk203314 ht203166 (by decide)).2.1
        obtain ⟨nu203333, nu203334, nu203335, nu203336⟩ := hnu203307
        have ht203337 : rKd γ q203290 202 := b0203295
        have r203338 : (g203150.toInt : Int).toNat = jb203297 := by omega
        have r203339 : (g203150.toInt : Int).toNat < γ 2 (γ 14 q189882) := by rw [r203332, r203338]; exact j3203300
        have r203340 : el (γ 14 q189882) (g203150.toInt : Int).toNat = q203290 := by rw [r203332, r203338]; exact j4203301
        have hph203341 : rPh γ0 el0 f ≤ rPh γ el f := rm_ph hph203155 hr2203311
        have pk203342 : rPh γ el f ≤ 387 * B + 6000 := rm_pk (rM_ge hT203315 ht203317 hf203318).1 (rM_bd hB203331)
        refine G_widen (cs' := ((rPh γ el f - rPh γ0 el0 f) / 18)) (sl' := (rPh γ el f - rPh γ0 el0 f)) (rm_wc hph203155 hr1203310) (rm_ws hph203155 hr2203311) ?_
        refine G_astore (L' := [(4, .ref q203290), (3, .ref q203254), (2, .int g203150), (0, .ref q189882), (1, .ref q189883)]) dr_cX13_copy_24 (Nat.le_of_ble_eq_true rfl) rfl ?_
        refine G_iconst 0 dr_cX13_copy_26 (by decide +kernel) ?_
        refine G_istore (L' := [(5, .int 0), (4, .ref q203290), (3, .ref q203254), (2, .int g203150), (0, .ref q189882), (1, .ref q189883)]) dr_cX13_copy_27 (Nat.le_of_ble_eq_true rfl) rfl ?_
        have hlp29_203808 : ∀ (n29_203808 : Nat) (P203787 : List Nat) (F203788 : Nat → va_E) (γ el : Nat → Nat → Nat) (g203786 : Int32), gB g203786 0 1000000 → RS D I P203787 F203788 γ el → rSk f [1, 2, 3, 101, 102, 103, 202] ([1, 2, 3, 4, 5, 6, 7, 8, 9, 101, 102, 103, 202]) D I P189880 F189881 γ0 el0 P203787 F203788 γ el → rPh γ0 el0 f ≤ rPh γ el f → rBd γ el f B → rKd γ q203290 202 → γ 1 q203290 = f → (g203150.toInt : Int).toNat < γ 2 (γ 14 q189882) → el (γ 14 q189882) (g203150.toInt : Int).toNat = q203290 → rKd γ q203254 2 → γ 1 q203254 = fo → γ 6 f = 0 → γ 19 f = γ0 6 fo → γ 18 f = 0 → γ 7 f = 0 → (fI (F203788 q189882) 3).toInt = g203150.toInt + 1 → rKb γ el q189882 (g203150.toInt : Int).toNat → γ 16 f ≤ rsum (fun i => γ0 2 (γ0 14 (el0 (γ0 14 q189883) i))) (g203150.toInt : Int).toNat + (g203786.toInt : Int).toNat → (g203150.toInt : Int) < γ0 6 fo → q203254 = el0 (γ0 14 q189883) (g203150.toInt : Int).toNat → (g203786.toInt : Int) ≤ γ0 2 (γ0 14 q203254) → (γ0 2 (γ0 14 q203254) - (g203786.toInt : Int).toNat) < n29_203808 → G (gV D I) l (gRm 8 170 (((387 * B + 6000) - rPh γ0 el0 f) / 18) ((387 * B + 6000) - rPh γ0 el0 f)) (gMA (gV D I) (pg_189887_Code_copy D I γ0 el0 f fo B P189880 F189881 q189882 q189883) gNA (((387 * B + 6000) - rPh γ0 el0 f) / 18) ((387 * B + 6000) - rPh γ0 el0 f)) ky_189887_Code_copy 29 [(5, .int g203786), (4, .ref q203290), (3, .ref q203254), (2, .int g203150), (0, .ref q189882), (1, .ref q189883)] [] (va_pl P203787 F203788) ((rPh γ el f - rPh γ0 el0 f) / 18) (rPh γ el f - rPh γ0 el0 f) := by
          intro n29_203808
          induction n29_203808 with
          | zero => intro P203787 F203788 γ el g203786 bg203786 hT203789 hs203790 hph203791 hB203792 ht203793 hf203794 r203795 r203796 ht203797 hf203798 x203799 x203800 x203801 x203802 x203803 x203804 x203805 x203806 x203807 x203808 hm29_203808; exact absurd hm29_203808 (Nat.not_lt_zero _)
          | succ n29_203808 ih29_203808 =>
            intro P203787 F203788 γ el g203786 bg203786 hT203789 hs203790 hph203791 hB203792 ht203793 hf203794 r203795 r203796 ht203797 hf203798 x203799 x203800 x203801 x203802 x203803 x203804 x203805 x203806 x203807 x203808 hm29_203808
            clear r203199 r203200 r203201 r203238 r203239 r203240 r203242 r203241 r203243 r203244 r203245 r203246 r203247 r203248 r203249 r203250 r203281 r203282 j1203298 j2203299 j3203300 j5203302 h16203305 h18203306 hr1203310 hr2203311 hM203312 r203324 r203325 r203326 r203327 r203329 r203328 r203332 nu203333 nu203334 nu203335 nu203336 r203338 r203339 r203340 hph203341 pk203342
            have ht203810 : rKd γ q189882 9 := rSk_k hs203790 hzq189882 (by decide) (by decide)
            have hf203811 : γ 1 q189882 = f := rSk_1 hs203790 hzq189882 (by decide) hf0
            have ht203812 : rKd γ q189883 9 := rSk_k hs203790 hzq189883 (by decide) (by decide)
            have hf203813 : γ 1 q189883 = fo := rSk_1 hs203790 hzq189883 (by decide) hfo0
            have pk203814 : rPh γ el f ≤ 387 * B + 6000 := rm_pk (rM_ge hT203789 ht203810 hf203811).1 (rM_bd hB203792)
            have r203815 := rSk_g hs203790 hne
            have r203816 : 0 < γ 6 (γ 1 q189883) := by rw [hf203813, r203815.1]; exact x189884
            have r203817 : γ 6 fo = γ0 6 fo := r203815.1
            have r203818 : γ 7 fo = 0 := by rw [r203815.2.1]; exact x189885
            have r203820 := RS_valid hT0 hzq189883 hfo0 x189884
            have r203819 := (rSk_o (i := g203150.toInt.toNat) hT0 hs203790 hzq189883 (by rw [hfo0]; exact hne)).2.2.2 (by omega)
            rw [← x203807] at r203819
            have xs203821 : γ 2 (γ 14 q203254) = γ0 2 (γ0 14 q203254) := by rw [r203819.1]; exact r203819.2.1
            refine G_iload 0 dr_cX13_copy_29 rfl ?_
            refine G_aload_n 2 dr_cX13_copy_31 rfl ?_
            have hm203822 : q203254 ∈ P203787 := RS_m hT203789 ht203797 (by decide)
            obtain ⟨q203824, q203825, p203826, p203827, he203823, ht203834, ht203828, ht203829, ht203830, ht203831, ht203832, bp203826, bp203827, r203833, r203835, r203836⟩ := show rk_2 γ q203254 (F203788 q203254) from RS_o hT203789 ht203797
            have hf203837 : γ 1 q203824 = fo := (show γ 1 q203824 = γ 1 q203254 from ht203829).trans hf203798
            have hf203838 : γ 1 q203825 = fo := (show γ 1 q203825 = γ 1 q203254 from ht203831).trans hf203798
            have r203839 : γ 6 (γ 1 q203254) = γ 6 fo := by rw [hf203798]
            have r203840 : γ 7 (γ 1 q203254) = γ 7 fo := by rw [hf203798]
            have r203841 : γ 19 (γ 1 q203254) = γ 19 fo := by rw [hf203798]
            have r203842 := r203833.resolve_left (by omega)
            clear r203833
            have r203843 : γ 2 (γ 14 q203254) = γ 2 q203824 := by rw [ht203834.1]
            refine Gp_get 0 hm203822 he203823 dr_cX13_copy_32 (gk_X12 D I) (Nat.le_of_ble_eq_true rfl) wr_9_219 rfl ?_
            have hm203844 : q203824 ∈ P203787 := RS_m hT203789 ht203828 (by decide)
            obtain ⟨⟨p203846, p203847, q203848, he203845, r203849, r203850, r203851, r203853⟩, r203852⟩ := show rk_3 D I γ el F203788 q203824 from RS_o hT203789 ht203828
            have bp203846 := gB_any p203846
            have bp203847 : gB p203847 0 1000000 := ⟨by omega, by omega⟩
            refine Gw_callV (As := []) (gV_ok D I) (cp_7_ArrayList_size l hl0 D I P203787 F203788 q203824 p203846 q203848 p203847 hm203844 he203845 (gB_w bp203847 (by decide) (by decide))) dr_cX13_copy_35 ⟨wr_9_157, wr_1_18, wr_9_160, by decide, rfl, (Nat.le_of_ble_eq_true rfl), (Nat.le_of_ble_eq_true rfl)⟩ wr_9_158 wr_9_159 hm203844 he203845 rfl (rm_zc pk203814) (rm_zs pk203814) (Nat.le_of_ble_eq_true rfl) (fun r203857 w203858 dc203854 ds203855 hp203856 => ?_) (fun _ _ _ _ _ z => z.elim)
            obtain ⟨rfl, rfl, hdc, hds⟩ := hp203856
            change G _ _ _ _ _ _ _ (.int p203847 :: _) _ _ _
            refine G_widen (cs' := ((rPh γ el f - rPh γ0 el0 f) / 18)) (sl' := (rPh γ el f - rPh γ0 el0 f)) (rm_d0 hdc) (rm_d0 hds) ?_
            refine G_icmp_ge 81 dr_cX13_copy_38 (by decide +kernel) (fun hc203859 => ?_) (fun hc203859 => ?_)
            · have r203860 : p203847.toInt ≤ g203786.toInt := gC_le hc203859
              refine G_aload 1 dr_cX13_copy_81 rfl ?_
              have hm203861 : q203290 ∈ P203787 := RS_m hT203789 ht203793 (by decide)
              obtain ⟨q203863, q203864, p203865, p203866, he203862, ht203872, ht203867, ht203868, ht203869, ht203870, ht203871, bp203865, bp203866⟩ := show rk_202 γ q203290 (F203788 q203290) from RS_o hT203789 ht203793
              have hf203873 : γ 1 q203863 = f := (show γ 1 q203863 = γ 1 q203290 from ht203868).trans hf203794
              have hf203874 : γ 1 q203864 = f := (show γ 1 q203864 = γ 1 q203290 from ht203870).trans hf203794
              have r203875 : γ 6 (γ 1 q203290) = γ 6 f := by rw [hf203794]
              have r203876 : γ 7 (γ 1 q203290) = γ 7 f := by rw [hf203794]
              have r203877 : γ 19 (γ 1 q203290) = γ 19 f := by rw [hf203794]
              have r203878 : γ 2 (γ 14 q203290) = γ 2 q203863 := by rw [ht203872.1]
              refine Gp_get 1 hm203861 he203862 dr_cX13_copy_83 (gk_X12 D I) (Nat.le_of_ble_eq_true rfl) wr_9_224 rfl ?_
              refine G_aload_n 2 dr_cX13_copy_86 rfl ?_
              refine Gp_get 1 hm203822 he203823 dr_cX13_copy_87 (gk_X12 D I) (Nat.le_of_ble_eq_true rfl) wr_9_224 rfl ?_
              have hm203879 : q203864 ∈ P203787 := RS_m hT203789 ht203869 (by decide)
              obtain ⟨p203881, p203882, p203883, p203884, p203885, p203886, p203887, he203880, bp203881, bp203882, bp203885, bp203886, bp203887, r203888, r203889, r203890⟩ := show rkR (F203788 q203864) from RS_o hT203789 ht203869
              have bp203883 := gB_any p203883
              have bp203884 := gB_any p203884
              have r203891 : γ 7 (γ 1 q203864) = γ 7 f := by rw [hf203874]
              have hm203892 : q203825 ∈ P203787 := RS_m hT203789 ht203830 (by decide)
              obtain ⟨p203894, p203895, p203896, p203897, p203898, p203899, p203900, he203893, bp203894, bp203895, bp203898, bp203899, bp203900, r203901, r203902, r203903, r203904, r203905⟩ := show rk_1 γ q203825 (F203788 q203825) from RS_o hT203789 ht203830
              have bp203896 := gB_any p203896
              have bp203897 := gB_any p203897
              have r203906 : γ 7 (γ 1 q203825) = γ 7 fo := by rw [hf203838]
              refine Gw_callV (As := [.ref q203825]) (gV_ok D I) (cp_1722_Row_put l hl0 D I P203787 F203788 q203864 q203825 p203881 p203882 p203883 p203884 p203885 p203886 p203887 p203894 p203895 p203896 p203897 p203898 p203899 p203900 hm203879 hm203892 he203880 he203893 (rn_ty ht203869 ht203830 (by decide)) bp203881 bp203882 bp203885 bp203886 bp203887 bp203894 bp203895 bp203898 bp203899 bp203900) dr_cX13_copy_90 ⟨wr_10_144, wr_1_39, wr_10_147, by decide, rfl, (Nat.le_of_ble_eq_true rfl), (Nat.le_of_ble_eq_true rfl)⟩ wr_10_145 wr_10_146 hm203879 he203880 rfl (rm_zc pk203814) (rm_zs pk203814) (Nat.le_of_ble_eq_true rfl) (fun r203910 w203911 dc203907 ds203908 hp203909 => ?_) (fun _ _ _ _ _ z => z.elim)
              obtain ⟨F203912, rfl, rfl, hfr203914, he203915, he203916, hdc, hds⟩ := hp203909
              have he203917 : F203912 q203254 = .inr (17, [.ref q203824, .ref q203825, .int p203826, .int p203827]) := (hfr203914 q203254 hm203822 (nm_c (rn_oo he203823 he203880 (by decide)) nm_n)).trans he203823
              have he203918 : F203912 q203824 = .inr (4, [.int p203846, .ref q203848, .int p203847]) := (hfr203914 q203824 hm203844 (nm_c (rn_oo he203845 he203880 (by decide)) nm_n)).trans he203845
              have he203919 : F203912 q203290 = .inr (17, [.ref q203863, .ref q203864, .int p203865, .int p203866]) := (hfr203914 q203290 hm203861 (nm_c (rn_oo he203862 he203880 (by decide)) nm_n)).trans he203862
              have hfr203920 : rFr [q203864] P203787 F203788 F203912 := rFr_call (rSub_rf (P := P203787)) (rFr_rf (W := []) (P := P203787) (F := F203788)) hfr203914 (fun b hb hn => ⟨nm_n, (nm_c (fun e => hn (e ▸ List.mem_cons_self)) nm_n)⟩)
              change G _ _ _ _ _ _ _ _ _ _ _
              refine G_widen (cs' := ((rPh γ el f - rPh γ0 el0 f) / 18)) (sl' := (rPh γ el f - rPh γ0 el0 f)) (rm_d0 hdc) (rm_d0 hds) ?_
              have hT203921 : RS D I P203787 F203912 γ el := RS_fr hT203789 hfr203920 ht203869 (by decide) ⟨p203894, p203895, p203896, p203897, p203898, p203899, p203900, he203915, bp203894, bp203895, bp203898, bp203899, bp203900, r203901, r203902, r203903⟩
              have hs203922 := rSk_fr hs203790 hT203921 hfr203920 ht203869 (by decide) (by decide)
              have md203923 : (fI (F203912 q189882) 3).toInt = (fI (F203788 q189882) 3).toInt := by rw [hfr203920 q189882 (RS_m hT203789 ht203810 (by decide)) (nm_c (rn_ty ht203810 ht203869 (by decide)) nm_n)]
              refine G_aload 1 dr_cX13_copy_93 rfl ?_
              refine G_aload_n 2 dr_cX13_copy_95 rfl ?_
              refine Gp_get 2 hm203822 he203917 dr_cX13_copy_96 (gk_X12 D I) (Nat.le_of_ble_eq_true rfl) wr_9_227 rfl ?_
              refine Gp_put 2 hm203861 he203919 dr_cX13_copy_99 (gk_X12 D I) (Nat.le_of_ble_eq_true rfl) wr_9_227 rfl rfl rfl (Nat.le_of_ble_eq_true rfl) (fun F203924 e203925 n203926 => ?_)
              have he203927 : F203924 q203254 = .inr (17, [.ref q203824, .ref q203825, .int p203826, .int p203827]) := (n203926 q203254 (rn_ty ht203797 ht203793 (by decide))).trans he203917
              have he203928 : F203924 q203824 = .inr (4, [.int p203846, .ref q203848, .int p203847]) := (n203926 q203824 (rn_oo he203918 he203919 (by decide))).trans he203918
              have he203929 : F203924 q203864 = .inr (20, [.int p203894, .int p203895, .int p203896, .int p203897, .int p203898, .int p203899, .int p203900]) := (n203926 q203864 (rn_oo he203915 he203919 (by decide))).trans he203915
              have he203930 : F203924 q203825 = .inr (20, [.int p203894, .int p203895, .int p203896, .int p203897, .int p203898, .int p203899, .int p203900]) := (n203926 q203825 (rn_oo he203916 he203919 (by decide))).trans he203916
              have he203931 : F203924 q203290 = .inr (17, [.ref q203863, .ref q203864, .int p203826, .int p203866]) := e203925
              refine G_aload 1 dr_cX13_copy_102 rfl ?_
              refine G_aload_n 2 dr_cX13_copy_104 rfl ?_
              refine Gp_get 3 hm203822 he203927 dr_cX13_copy_105 (gk_X12 D I) (Nat.le_of_ble_eq_true rfl) wr_9_231 rfl ?_
              refine Gp_put 3 hm203861 he203931 dr_cX13_copy_108 (gk_X12 D I) (Nat.le_of_ble_eq_true rfl) wr_9_231 rfl rfl rfl (Nat.le_of_ble_eq_true rfl) (fun F203932 e203933 n203934 => ?_)
              have he203935 : F203932 q203254 = .inr (17, [.ref q203824, .ref q203825, .int p203826, .int p203827]) := (n203934 q203254 (rn_ty ht203797 ht203793 (by decide))).trans he203927
              have he203936 : F203932 q203824 = .inr (4, [.int p203846, .ref q203848, .int p203847]) := (n203934 q203824 (rn_oo he203928 he203931 (by decide))).trans he203928
              have he203937 : F203932 q203864 = .inr (20, [.int p203894, .int p203895, .int p203896, .int p203897, .int p203898, .int p203899, .int p203900]) := (n203934 q203864 (rn_oo he203929 he203931 (by decide))).trans he203929
              have he203938 : F203932 q203825 = .inr (20, [.int p203894, .int p203895, .int p203896, .int p203897, .int p203898, .int p203899, .int p203900]) := (n203934 q203825 (rn_oo he203930 he203931 (by decide))).trans he203930
              have he203939 : F203932 q203290 = .inr (17, [.ref q203863, .ref q203864, .int p203826, .int p203827]) := e203933
              have n203940 : ∀ b, b ≠ q203290 → F203932 b = F203912 b := fun b hb => (n203934 b hb).trans (n203926 b hb)
              have hT203941 : RS D I P203787 F203932 γ el := RS_set hT203921 n203940 ht203793 (by decide) ⟨q203863, q203864, p203826, p203827, he203939, ht203872, ht203867, ht203868, ht203869, ht203870, ht203871, bp203826, bp203827⟩
              have hs203942 := rSk_put hs203922 hT203941 n203940 ht203793 (by decide) (by decide)
              have md203943 : (fI (F203932 q189882) 3).toInt = (fI (F203912 q189882) 3).toInt := by rw [n203940 q189882 (rn_ty ht203810 ht203793 (by decide))]
              have hx203944 : rk_1 γ q203864 (F203932 q203864) := ⟨p203894, p203895, p203896, p203897, p203898, p203899, p203900, he203937, bp203894, bp203895, bp203898, bp203899, bp203900, r203901, r203902, r203903, (Or.inl (r203904.resolve_right (by omega))), (Or.inr (r203905.resolve_left (fun z => absurd (ht203832.2.symm.trans z) (by decide))))⟩
              have hv203945 := St_seal (f := f) hT203941 ht203793 hf203794 he203939 ht203810 hf203811 (by omega) (by omega) (by omega) hx203944
              have hv203945 := And.intro hv203945 (gSea_ph (γ := γ) (el := el) (f := f) (b := q203290) (n := q203864))
              obtain ⟨γ, hg203946⟩ : ∃ z, z = gSea γ q203290 q203864 := ⟨_, rfl⟩
              rw [← hg203946] at hv203945
              have hk203947 := rSk_of hv203945.1
              have r203948 := hv203945.2.1
              have hT203949 := hk203947.1
              have hs203950 := rSk_tr hs203942 hk203947 (by decide) (by decide) (by decide)
              have ht203951 : rKd γ q189882 9 := rSk_k hk203947 ht203810 (by decide) (by decide)
              have hf203952 : γ 1 q189882 = f := rSk_1 hk203947 ht203810 (by decide) hf203811
              have ht203953 : rKd γ q189883 9 := rSk_kf hk203947 ht203812 (by decide) (by rw [hf203813]; exact hne)
              have hf203954 : γ 1 q189883 = fo := rSk_1 hk203947 ht203812 (by decide) hf203813
              have ht203955 : rKd γ q203254 2 := rSk_kf hk203947 ht203797 (by decide) (by rw [hf203798]; exact hne)
              have hf203956 : γ 1 q203254 = fo := rSk_1 hk203947 ht203797 (by decide) hf203798
              have ht203957 : rKd γ q203824 3 := rSk_kf hk203947 ht203828 (by decide) (by rw [hf203837]; exact hne)
              have hf203958 : γ 1 q203824 = fo := rSk_1 hk203947 ht203828 (by decide) hf203837
              have ht203959 : rKd γ q203863 3 := rSk_k hk203947 ht203867 (by decide) (by decide)
              have hf203960 : γ 1 q203863 = f := rSk_1 hk203947 ht203867 (by decide) hf203873
              have kb203961 : rKb γ el q189882 (g203150.toInt : Int).toNat := rKb_t x203804 hk203947 (by decide) (rSk_s hk203947 ht203810 (by decide)).2.1 (fun _ _ => rfl)
              clear bp203826 bp203827 r203835 r203836 bp203865 bp203866 bp203881 bp203882 bp203885 bp203886 bp203887 bp203883 bp203884 bp203894 bp203895 bp203898 bp203899 bp203900 bp203896 bp203897
              clear r203888 r203889 r203890 r203901 r203902 r203903 r203904 r203905
              have r203962 := rSk_g hs203950 hne
              have r203963 : 0 < γ 6 (γ 1 q189883) := by rw [hf203954, r203962.1]; exact x189884
              have r203964 : γ 6 fo = γ0 6 fo := r203962.1
              have r203965 : γ 7 fo = 0 := by rw [r203962.2.1]; exact x189885
              have r203967 := RS_valid hT0 hzq189883 hfo0 x189884
              have r203966 := (rSk_o (i := g203150.toInt.toNat) hT0 hs203950 hzq189883 (by rw [hfo0]; exact hne)).2.2.2 (by omega)
              rw [← x203807] at r203966
              have xs203968 : γ 2 (γ 14 q203254) = γ0 2 (γ0 14 q203254) := by rw [r203966.1]; exact r203966.2.1
              have hB203969 : rBd γ el f B := hv203945.2.2.2 B hB203792
              have hph203970 : rPh γ0 el0 f ≤ rPh γ el f := by rw [r203948]; exact hph203791
              have pk203971 : rPh γ el f ≤ 387 * B + 6000 := rm_pk (rM_ge hT203949 ht203951 hf203952).1 (rM_bd hB203969)
              refine G_widen (cs' := ((rPh γ el f - rPh γ0 el0 f) / 18)) (sl' := (rPh γ el f - rPh γ0 el0 f)) (rm_ec r203948) (rm_es r203948) ?_
              have r203972 := gSea_n hg203946 f
              have kb203973 : rKb γ el q189882 (g203150.toInt + 1 : Int).toNat := rKb_s kb203961 (by omega) (by rw [(rSk_s hk203947 ht203810 (by decide)).2.1, r203796, hg203946]; exact if_pos rfl)
              obtain ⟨z203974, hz203974⟩ : ∃ z : Int32, z = g203150 + Int32.ofInt 1 := ⟨_, rfl⟩
              have ez203974 : z203974.toInt = g203150.toInt + 1 := gI_inc hz203974 (by decide) bg203150' (by decide) (by decide)
              have bz203974 : gB z203974 1 1000000 := ⟨by omega, by omega⟩
              refine G_iinc (L' := [(2, .int z203974), (5, .int g203786), (4, .ref q203290), (3, .ref q203254), (0, .ref q189882), (1, .ref q189883)]) z203974 3 dr_cX13_copy_111 rfl hz203974.symm (Nat.le_of_ble_eq_true rfl) rfl ?_
              refine G_goto 6 dr_cX13_copy_114 (by decide +kernel) ?_
              refine G_lv (L' := [(2, .int z203974), (0, .ref q189882), (1, .ref q189883)]) [0, 4, 5] rfl ?_
              have rs203975 : rsum (fun i => γ0 2 (γ0 14 (el0 (γ0 14 q189883) i))) z203974.toInt.toNat = rsum (fun i => γ0 2 (γ0 14 (el0 (γ0 14 q189883) i))) g203150.toInt.toNat + γ0 2 (γ0 14 (el0 (γ0 14 q189883) g203150.toInt.toNat)) := rsum_1 (by omega) (by omega)
              rw [← x203807] at rs203975
              exact ih6_203164 P203787 F203932 γ el z203974 (gB_w bz203974 (by decide) (by decide)) hT203949 hs203950 hph203970 hB203969 (by omega) (by omega) (by omega) (by omega) (by omega) (by rw [show z203974.toInt.toNat = (g203150.toInt + 1 : Int).toNat by omega]; exact kb203973) (by omega) (by omega) (rm_m1 ez203974 bg203150'.1 x203806 hm6_203164)
            · have r203976 : g203786.toInt < p203847.toInt := gC_nle hc203859
              have bg203786' : gB g203786 0 999999 := ⟨by omega, by omega⟩
              have bp203847' : gB p203847 1 1000000 := ⟨by omega, by omega⟩
              have jl203977 : (g203786.toInt : Int) < γ0 2 (γ0 14 q203254) := by omega
              refine G_aload_n 4 dr_cX13_copy_41 rfl ?_
              have r203978 := (RS_valid hT0 hzq189883 hfo0 x189884).2.2.2.2
              have r203979 : rsum (fun i => γ0 2 (γ0 14 (el0 (γ0 14 q189883) i))) (g203150.toInt + 1).toNat = rsum (fun i => γ0 2 (γ0 14 (el0 (γ0 14 q189883) i))) g203150.toInt.toNat + γ0 2 (γ0 14 (el0 (γ0 14 q189883) g203150.toInt.toNat)) := rsum_1 rfl bg203150'.1
              rw [← x203807] at r203979
              have r203980 : rsum (fun i => γ0 2 (γ0 14 (el0 (γ0 14 q189883) i))) (g203150.toInt + 1).toNat ≤ rsum (fun i => γ0 2 (γ0 14 (el0 (γ0 14 q189883) i))) (γ0 6 fo) := rsum_m _ (rm_tn x203806)
              have r203982 : γ 16 f + 1 ≤ B := by omega
              have rg203983 := rM_ge hT203789 ht203810 hf203811
              have rm203984 := rM_bd hB203792
              have bd203985 := rBd_c hT203789 ht203810 hf203811 hB203792
              have rc203986 := rc_at hT203789 ht203810 hf203811
              obtain ⟨q203993, hl203994⟩ : ∃ z, z = γ 14 q203290 := ⟨_, rfl⟩
              have hl203995 : γ 0 q203993 = 3 ∨ γ 0 q203993 = 103 := by rw [hl203994, ← r203796]; exact (RS_lst hT203789 rc203986.2.1 r203795).1
              refine Gt_row (c := q189882) (f := f) hl0 dr_cX13_copy_42 ⟨wr_10_143, wr_1_15, wr_10_82, by decide, rfl, (Nat.le_of_ble_eq_true rfl), (Nat.le_of_ble_eq_true rfl)⟩ wr_10_80 wr_10_81 hT203789 ht203810 hf203811 (Nat.le_trans bd203985.2.2.1 (Nat.le_trans hBk (by decide))) (rm_cs hph203791 rg203983.2.1 rm203984 (by decide)) (rm_sl hph203791 rg203983.2.1 rm203984 rm_s18) (Nat.le_of_ble_eq_true rfl) (fun P203987 F203988 γ el q203989 dc203990 ds203991 hq203992 => ?_)
              obtain ⟨hk203996, x0203997, x1203998, x22203999, x8204000, h16204001, h18204002, hnu204003, hot204004, h45204005, hf0204006, ⟨hr1204007, hr2204008⟩, hM204009, hBB204010⟩ := hq203992
              have hk204011 := rSk_of hk203996
              have hT204012 := hk204011.1
              have hs204013 := rSk_tr hs203790 hk204011 (by decide) (by decide) (by decide)
              have ht204014 : rKd γ q189882 9 := rSk_k hk204011 ht203810 (by decide) (by decide)
              have hf204015 : γ 1 q189882 = f := rSk_1 hk204011 ht203810 (by decide) hf203811
              have ht204016 : rKd γ q189883 9 := rSk_kf hk204011 ht203812 (by decide) (by rw [hf203813]; exact hne)
              have hf204017 : γ 1 q189883 = fo := rSk_1 hk204011 ht203812 (by decide) hf203813
              have ht204018 : rKd γ q203290 202 := rSk_k hk204011 ht203793 (by decide) (by decide)
              have hf204019 : γ 1 q203290 = f := rSk_1 hk204011 ht203793 (by decide) hf203794
              have ht204020 : rKd γ q203254 2 := rSk_kf hk204011 ht203797 (by decide) (by rw [hf203798]; exact hne)
              have hf204021 : γ 1 q203254 = fo := rSk_1 hk204011 ht203797 (by decide) hf203798
              have ht204022 : rKd γ q203824 3 := rSk_kf hk204011 ht203828 (by decide) (by rw [hf203837]; exact hne)
              have hf204023 : γ 1 q203824 = fo := rSk_1 hk204011 ht203828 (by decide) hf203837
              have r204024 := (rSk_s hk204011 ht203810 (by decide)).2.1
              have r204025 := hot204004 _ (by rw [rc203986.2.1]; decide) (by rw [rc203986.2.1]; decide)
              have r204026 : (g203150.toInt : Int).toNat < γ 2 (γ 14 q189882) := by rw [r204024, r204025.1]; exact r203795
              have r204027 : el (γ 14 q189882) (g203150.toInt : Int).toNat = q203290 := by rw [r204024, r204025.2]; exact r203796
              have kb204028 : rKb γ el q189882 (g203150.toInt : Int).toNat := rKb_t x203804 hk204011 (by decide) r204024 (fun i _ => by rw [r204025.2])
              clear bp203826 bp203827 r203835 r203836 rg203983 rm203984 bd203985 rc203986
              have r204029 := rSk_g hs204013 hne
              have r204030 : 0 < γ 6 (γ 1 q189883) := by rw [hf204017, r204029.1]; exact x189884
              have r204031 : γ 6 fo = γ0 6 fo := r204029.1
              have r204032 : γ 7 fo = 0 := by rw [r204029.2.1]; exact x189885
              have r204034 := RS_valid hT0 hzq189883 hfo0 x189884
              have r204033 := (rSk_o (i := g203150.toInt.toNat) hT0 hs204013 hzq189883 (by rw [hfo0]; exact hne)).2.2.2 (by omega)
              rw [← x203807] at r204033
              have xs204035 : γ 2 (γ 14 q203254) = γ0 2 (γ0 14 q203254) := by rw [r204033.1]; exact r204033.2.1
              have sz204036 := (rSk_s hk204011 ht203793 (by decide)).2.1
              have sz204037 := congrArg (γ 2) sz204036
              have sz204038 := (hot204004 q203993 (by omega) (by omega)).1
              rw [hl203994] at sz204038
              clear hl203995
              have sz204039 := (hot204004 q203824 (rT0 ht203828 (by decide)) (by rw [show _ = 3 from ht203828]; decide)).1
              obtain ⟨nu204040, nu204041, nu204042, nu204043⟩ := hnu204003
              have r204044 := hf0204006.2.2
              have hB204045 : rBd γ el f B := hBB204010 B r203982 hB203792
              have ht204046 : rKd γ q203989 101 := x0203997
              have r204047 : γ 8 q203989 < γ 16 f := rm_x8 x8204000 h16204001 rfl
              have hph204048 : rPh γ0 el0 f ≤ rPh γ el f := rm_ph hph203791 hr2204008
              have pk204049 : rPh γ el f ≤ 387 * B + 6000 := rm_pk (rM_ge hT204012 ht204014 hf204015).1 (rM_bd hB204045)
              have hm204050 : q203989 ∈ P203987 := RS_m hT204012 ht204046 (by decide)
              obtain ⟨p204052, p204053, p204054, p204055, p204056, p204057, p204058, he204051, bp204052, bp204053, bp204056, bp204057, bp204058, r204059, r204060, r204061⟩ := show rkR (F203988 q203989) from RS_o hT204012 ht204046
              have bp204054 := gB_any p204054
              have bp204055 := gB_any p204055
              have r204062 : γ 7 (γ 1 q203989) = γ 7 f := by rw [x1203998]
              have r204063 : p204057.toInt = 0 := by have z := hf0204006.1; rw [he204051] at z; exact z
              have bp204057' : gB p204057 0 0 := ⟨by omega, by omega⟩
              have r204064 : p204058.toInt = 0 := by have z := hf0204006.2.1; rw [he204051] at z; exact z
              have bp204058' : gB p204058 0 0 := ⟨by omega, by omega⟩
              refine G_widen (cs' := ((rPh γ el f - rPh γ0 el0 f) / 18)) (sl' := (rPh γ el f - rPh γ0 el0 f)) (rm_wc hph203791 hr1204007) (rm_ws hph203791 hr2204008) ?_
              refine G_astore (L' := [(6, .ref q203989), (5, .int g203786), (4, .ref q203290), (3, .ref q203254), (2, .int g203150), (0, .ref q189882), (1, .ref q189883)]) dr_cX13_copy_45 (Nat.le_of_ble_eq_true rfl) rfl ?_
              refine G_aload 0 dr_cX13_copy_47 rfl ?_
              refine G_aload_n 3 dr_cX13_copy_49 rfl ?_
              have hm204065 : q203254 ∈ P203987 := RS_m hT204012 ht204020 (by decide)
              obtain ⟨q204067, q204068, p204069, p204070, he204066, ht204077, ht204071, ht204072, ht204073, ht204074, ht204075, bp204069, bp204070, r204076, r204078, r204079⟩ := show rk_2 γ q203254 (F203988 q203254) from RS_o hT204012 ht204020
              have hf204080 : γ 1 q204067 = fo := (show γ 1 q204067 = γ 1 q203254 from ht204072).trans hf204021
              have hf204081 : γ 1 q204068 = fo := (show γ 1 q204068 = γ 1 q203254 from ht204074).trans hf204021
              have r204082 : γ 6 (γ 1 q203254) = γ 6 fo := by rw [hf204021]
              have r204083 : γ 7 (γ 1 q203254) = γ 7 fo := by rw [hf204021]
              have r204084 : γ 19 (γ 1 q203254) = γ 19 fo := by rw [hf204021]
              have r204085 := r204076.resolve_left (by omega)
              clear r204076
              have r204086 : γ 2 (γ 14 q203254) = γ 2 q204067 := by rw [ht204077.1]
              refine Gp_get 0 hm204065 he204066 dr_cX13_copy_50 (gk_X12 D I) (Nat.le_of_ble_eq_true rfl) wr_9_219 rfl ?_
              have jl204087 : g203786.toInt.toNat < γ 2 q204067 := rm_ix bg203786'.1 jl203977 xs204035 (by rw [ht204077.1])
              refine G_iload 1 dr_cX13_copy_53 rfl ?_
              have hm204088 : q204067 ∈ P203987 := RS_m hT204012 ht204071 (by decide)
              obtain ⟨⟨p204090, p204091, q204092, he204089, r204093, r204094, r204095, r204097⟩, r204096⟩ := show rk_3 D I γ el F203988 q204067 from RS_o hT204012 ht204071
              have bp204090 := gB_any p204090
              have bp204091 : gB p204091 0 1000000 := ⟨by omega, by omega⟩
              obtain ⟨r204098, r204099, n204106, f204107, r204100, r204101, r204102, r204103, r204104, r204105⟩ := rLC_n r204095 (by omega)
              have hm204108 : q204092 ∈ P203987 := RS_m hT204012 r204098 (by decide)
              obtain ⟨q204109, hx204110⟩ : ∃ x, x = el q204067 g203786.toInt.toNat := ⟨_, rfl⟩
              have hx204111 : f204107 g203786.toNatClampNeg = some q204109 := (r204104 _ (show g203786.toInt.toNat < γ 2 q204067 by first | assumption | omega)).trans (by rw [hx204110])
              have ht204112 : rKd γ q204109 1 := by rw [hx204110]; exact (r204096 _ (show g203786.toInt.toNat < γ 2 q204067 by first | assumption | omega)).1
              have ht204113 : rFm γ q204109 q204067 := by rw [hx204110]; exact (r204096 _ (show g203786.toInt.toNat < γ 2 q204067 by first | assumption | omega)).2.1
              have hf204114 : γ 1 q204109 = fo := (show γ 1 q204109 = γ 1 q204067 from ht204113).trans hf204080
              refine Gw_callV (As := [.int g203786]) (gV_ok D I) (cp_22_ArrayList_get l hl0 D I P203987 F203988 q204067 q204092 g203786 p204090 p204091 f204107 n204106 q204109 hm204088 hm204108 he204089 r204100 (gB_w bg203786' (by decide) (by decide)) (gB_w bp204091 (by decide) (by decide)) (by omega) (by omega) (by assumption) (by omega)) dr_cX13_copy_55 ⟨wr_10_62, wr_1_18, wr_10_65, by decide, rfl, (Nat.le_of_ble_eq_true rfl), (Nat.le_of_ble_eq_true rfl)⟩ wr_10_63 wr_10_64 hm204088 he204089 rfl (rm_zc pk204049) (rm_zs pk204049) (Nat.le_of_ble_eq_true rfl) (fun r204118 w204119 dc204115 ds204116 hp204117 => ?_) (fun _ _ _ _ _ z => z.elim)
              obtain ⟨rfl, rfl, hdc, hds⟩ := hp204117
              change G _ _ _ _ _ _ _ (.ref q204109 :: _) _ _ _
              refine G_widen (cs' := ((rPh γ el f - rPh γ0 el0 f) / 18)) (sl' := (rPh γ el f - rPh γ0 el0 f)) (rm_d0 hdc) (rm_d0 hds) ?_
              have hm204120 : q204109 ∈ P203987 := RS_m hT204012 ht204112 (by decide)
              obtain ⟨p204122, p204123, p204124, p204125, p204126, p204127, p204128, he204121, bp204122, bp204123, bp204126, bp204127, bp204128, r204129, r204130, r204131, r204132, r204133⟩ := show rk_1 γ q204109 (F203988 q204109) from RS_o hT204012 ht204112
              have bp204124 := gB_any p204124
              have bp204125 := gB_any p204125
              have r204134 : γ 7 (γ 1 q204109) = γ 7 fo := by rw [hf204114]
              refine Gp_cast hm204120 he204121 rfl dr_cX13_copy_58 wr_10_83 (gr_cast 1 rfl) ?_
              refine Gw_callV (As := [.ref q204109]) (gV_ok D I) (cp_1722_Row_put l hl0 D I P203987 F203988 q203989 q204109 p204052 p204053 p204054 p204055 p204056 p204057 p204058 p204122 p204123 p204124 p204125 p204126 p204127 p204128 hm204050 hm204120 he204051 he204121 (rn_ty ht204046 ht204112 (by decide)) bp204052 bp204053 bp204056 (gB_w bp204057' (by decide) (by decide)) (gB_w bp204058' (by decide) (by decide)) bp204122 bp204123 bp204126 bp204127 bp204128) dr_cX13_copy_61 ⟨wr_10_144, wr_1_39, wr_10_147, by decide, rfl, (Nat.le_of_ble_eq_true rfl), (Nat.le_of_ble_eq_true rfl)⟩ wr_10_145 wr_10_146 hm204050 he204051 rfl (rm_zc pk204049) (rm_zs pk204049) (Nat.le_of_ble_eq_true rfl) (fun r204138 w204139 dc204135 ds204136 hp204137 => ?_) (fun _ _ _ _ _ z => z.elim)
              obtain ⟨F204140, rfl, rfl, hfr204142, he204143, he204144, hdc, hds⟩ := hp204137
              have he204145 : F204140 q203254 = .inr (17, [.ref q204067, .ref q204068, .int p204069, .int p204070]) := (hfr204142 q203254 hm204065 (nm_c (rn_oo he204066 he204051 (by decide)) nm_n)).trans he204066
              have he204146 : F204140 q204067 = .inr (4, [.int p204090, .ref q204092, .int p204091]) := (hfr204142 q204067 hm204088 (nm_c (rn_oo he204089 he204051 (by decide)) nm_n)).trans he204089
              have he204147 : F204140 q204092 = .inl (I (.object "java/lang/Object"), n204106, .inr (.inr (.inr (.inr f204107)))) := (hfr204142 q204092 hm204108 (nm_c (rn_ao r204100 he204051) nm_n)).trans r204100
              have hfr204148 : rFr [q203989] P203987 F203988 F204140 := rFr_call (rSub_rf (P := P203987)) (rFr_rf (W := []) (P := P203987) (F := F203988)) hfr204142 (fun b hb hn => ⟨nm_n, (nm_c (fun e => hn (e ▸ List.mem_cons_self)) nm_n)⟩)
              change G _ _ _ _ _ _ _ _ _ _ _
              refine G_widen (cs' := ((rPh γ el f - rPh γ0 el0 f) / 18)) (sl' := (rPh γ el f - rPh γ0 el0 f)) (rm_d0 hdc) (rm_d0 hds) ?_
              have hT204149 : RS D I P203987 F204140 γ el := RS_fr hT204012 hfr204148 ht204046 (by decide) ⟨p204122, p204123, p204124, p204125, p204126, p204127, p204128, he204143, bp204122, bp204123, bp204126, bp204127, bp204128, r204129, r204130, r204131⟩
              have hs204150 := rSk_fr hs204013 hT204149 hfr204148 ht204046 (by decide) (by decide)
              have md204151 : (fI (F204140 q189882) 3).toInt = (fI (F203988 q189882) 3).toInt := by rw [hfr204148 q189882 (RS_m hT204012 ht204014 (by decide)) (nm_c (rn_ty ht204014 ht204046 (by decide)) nm_n)]
              refine G_aload 2 dr_cX13_copy_64 rfl ?_
              have hm204152 : q203290 ∈ P203987 := RS_m hT204149 ht204018 (by decide)
              obtain ⟨q204154, q204155, p204156, p204157, he204153, ht204163, ht204158, ht204159, ht204160, ht204161, ht204162, bp204156, bp204157⟩ := show rk_202 γ q203290 (F204140 q203290) from RS_o hT204149 ht204018
              have hf204164 : γ 1 q204154 = f := (show γ 1 q204154 = γ 1 q203290 from ht204159).trans hf204019
              have hf204165 : γ 1 q204155 = f := (show γ 1 q204155 = γ 1 q203290 from ht204161).trans hf204019
              have r204166 : γ 6 (γ 1 q203290) = γ 6 f := by rw [hf204019]
              have r204167 : γ 7 (γ 1 q203290) = γ 7 f := by rw [hf204019]
              have r204168 : γ 19 (γ 1 q203290) = γ 19 f := by rw [hf204019]
              have r204169 : γ 2 (γ 14 q203290) = γ 2 q204154 := by rw [ht204163.1]
              refine Gp_get 0 hm204152 he204153 dr_cX13_copy_66 (gk_X12 D I) (Nat.le_of_ble_eq_true rfl) wr_9_219 rfl ?_
              refine G_aload 0 dr_cX13_copy_69 rfl ?_
              have rg204170 := rM_ge hT204149 ht204014 hf204015
              have rm204171 := rM_bd hB204045
              have bd204172 := rBd_c hT204149 ht204014 hf204015 hB204045
              have rc204173 := rc_at hT204149 ht204014 hf204015
              have r204175 : γ 14 (el (γ 14 q189882) (g203150.toInt : Int).toNat) = q204154 := by rw [r204027]; exact ht204163.1
              have r204176 := rg204170.2.2 _ r204026
              rw [r204175] at r204176
              have r204177 := bd204172.2.2.2 _ r204026
              rw [r204175] at r204177
              have r204178 : γ 7 (γ 1 q203989) = γ 7 f := by rw [x1203998]
              have hx204179 : rk_1 γ q203989 (F204140 q203989) := ⟨p204122, p204123, p204124, p204125, p204126, p204127, p204128, he204143, bp204122, bp204123, bp204126, bp204127, bp204128, r204129, r204130, r204131, (Or.inl (r204132.resolve_right (by omega))), (Or.inl x22203999)⟩
              refine Gt_add (c := q189882) (f := f) hl0 dr_cX13_copy_71 ⟨wr_10_3, wr_1_18, wr_10_6, by decide, rfl, (Nat.le_of_ble_eq_true rfl), (Nat.le_of_ble_eq_true rfl)⟩ wr_10_4 wr_10_5 hT204149 ht204158 hf204164 ht204046 x1203998 x22203999 r204047 (by omega) ht204014 hf204015 r204026 r204175 hx204179 (Nat.le_trans r204177 (Nat.le_trans hBk (by decide))) (rm_cs hph204048 r204176 rm204171 (by decide)) (rm_sl hph204048 r204176 rm204171 rm_s11) (Nat.le_of_ble_eq_true rfl) (fun P204180 F204174 γ el dc204181 ds204182 hq204183 => ?_)
              obtain ⟨hk204184, x0204185, h2204186, hel204187, hot204188, h16204189, h18204190, hnu204191, hFx204192, hr204193, hM204194, hBB204195⟩ := hq204183
              have hk204196 := rSk_of hk204184
              have r204197 : (fI (F204174 q189882) 3).toInt = (fI (F204140 q189882) 3).toInt := by rw [rSk_F hk204196 ht204014 (by decide) (by decide)]
              have hT204198 := hk204196.1
              have hs204199 := rSk_tr hs204150 hk204196 (by decide) (by decide) (by decide)
              have ht204200 : rKd γ q189882 9 := rSk_k hk204196 ht204014 (by decide) (by decide)
              have hf204201 : γ 1 q189882 = f := rSk_1 hk204196 ht204014 (by decide) hf204015
              have ht204202 : rKd γ q189883 9 := rSk_kf hk204196 ht204016 (by decide) (by rw [hf204017]; exact hne)
              have hf204203 : γ 1 q189883 = fo := rSk_1 hk204196 ht204016 (by decide) hf204017
              have ht204204 : rKd γ q203290 202 := rSk_k hk204196 ht204018 (by decide) (by decide)
              have hf204205 : γ 1 q203290 = f := rSk_1 hk204196 ht204018 (by decide) hf204019
              have ht204206 : rKd γ q203254 2 := rSk_kf hk204196 ht204020 (by decide) (by rw [hf204021]; exact hne)
              have hf204207 : γ 1 q203254 = fo := rSk_1 hk204196 ht204020 (by decide) hf204021
              have ht204208 : rKd γ q203824 3 := rSk_kf hk204196 ht204022 (by decide) (by rw [hf204023]; exact hne)
              have hf204209 : γ 1 q203824 = fo := rSk_1 hk204196 ht204022 (by decide) hf204023
              have ht204210 : rKd γ q204067 3 := rSk_kf hk204196 ht204071 (by decide) (by rw [hf204080]; exact hne)
              have hf204211 : γ 1 q204067 = fo := rSk_1 hk204196 ht204071 (by decide) hf204080
              have ht204212 : rKd γ q204154 3 := rSk_k hk204196 ht204158 (by decide) (by decide)
              have hf204213 : γ 1 q204154 = f := rSk_1 hk204196 ht204158 (by decide) hf204164
              have r204214 := (rSk_s hk204196 ht204014 (by decide)).2.1
              have r204215 := hot204188 _ (by rw [rc204173.2.1]; decide) (fun q => by rw [q, show _ = 3 from ht204158] at rc204173; exact absurd rc204173.2.1 (by decide))
              have r204216 : (g203150.toInt : Int).toNat < γ 2 (γ 14 q189882) := by rw [r204214, r204215.1]; exact r204026
              have r204217 : el (γ 14 q189882) (g203150.toInt : Int).toNat = q203290 := by rw [r204214, r204215.2]; exact r204027
              have kb204218 : rKb γ el q189882 (g203150.toInt : Int).toNat := rKb_t kb204028 hk204196 (by decide) r204214 (fun i _ => by rw [r204215.2])
              clear bp204052 bp204053 bp204056 bp204057 bp204058 bp204054 bp204055 bp204069 bp204070 r204078 r204079 bp204122 bp204123 bp204126 bp204127 bp204128 bp204124 bp204125 bp204156 bp204157 rg204170 rm204171 bd204172 rc204173 r204176 r204177
              clear r204059 r204060 r204061 r204129 r204130 r204131 r204132 r204133
              have r204219 := rSk_g hs204199 hne
              have r204220 : 0 < γ 6 (γ 1 q189883) := by rw [hf204203, r204219.1]; exact x189884
              have r204221 : γ 6 fo = γ0 6 fo := r204219.1
              have r204222 : γ 7 fo = 0 := by rw [r204219.2.1]; exact x189885
              have r204224 := RS_valid hT0 hzq189883 hfo0 x189884
              have r204223 := (rSk_o (i := g203150.toInt.toNat) hT0 hs204199 hzq189883 (by rw [hfo0]; exact hne)).2.2.2 (by omega)
              rw [← x203807] at r204223
              have xs204225 : γ 2 (γ 14 q203254) = γ0 2 (γ0 14 q203254) := by rw [r204223.1]; exact r204223.2.1
              first | have sz204226 := (hot204188 q203824 (rT0 ht204022 (by decide)) (by assumption)).1 | skip
              first | have sz204227 := (hot204188 q204067 (rT0 ht204071 (by decide)) (by assumption)).1 | skip
              obtain ⟨nu204228, nu204229, nu204230, nu204231⟩ := hnu204191
              have ht204232 : rKd γ q203989 1 := x0204185
              have hB204233 : rBd γ el f B := hBB204195 B hB204045
              have hph204234 : rPh γ0 el0 f ≤ rPh γ el f := rm_ph hph204048 hr204193.2
              have pk204235 : rPh γ el f ≤ 387 * B + 6000 := rm_pk (rM_ge hT204198 ht204200 hf204201).1 (rM_bd hB204233)
              refine G_widen (cs' := ((rPh γ el f - rPh γ0 el0 f) / 18)) (sl' := (rPh γ el f - rPh γ0 el0 f)) (rm_wc hph204048 hr204193.1) (rm_ws hph204048 hr204193.2) ?_
              refine G_pop dr_cX13_copy_74 rfl ?_
              obtain ⟨z204236, hz204236⟩ : ∃ z : Int32, z = g203786 + Int32.ofInt 1 := ⟨_, rfl⟩
              have ez204236 : z204236.toInt = g203786.toInt + 1 := gI_inc hz204236 (by decide) bg203786' (by decide) (by decide)
              have bz204236 : gB z204236 1 1000000 := ⟨by omega, by omega⟩
              refine G_iinc (L' := [(5, .int z204236), (6, .ref q203989), (4, .ref q203290), (3, .ref q203254), (2, .int g203150), (0, .ref q189882), (1, .ref q189883)]) z204236 1 dr_cX13_copy_75 rfl hz204236.symm (Nat.le_of_ble_eq_true rfl) rfl ?_
              refine G_goto 29 dr_cX13_copy_78 (by decide +kernel) ?_
              refine G_lv (L' := [(5, .int z204236), (4, .ref q203290), (3, .ref q203254), (2, .int g203150), (0, .ref q189882), (1, .ref q189883)]) [0, 2, 3, 4, 5, 6] rfl ?_
              exact ih29_203808 P204180 F204174 γ el z204236 (gB_w bz204236 (by decide) (by decide)) hT204198 hs204199 hph204234 hB204233 ht204204 hf204205 r204216 r204217 ht204206 hf204207 (by omega) (by omega) (by omega) (by omega) (by omega) kb204218 (by omega) (by omega) x203807 (by omega) (rm_m1 ez204236 bg203786'.1 jl203977 hm29_203808)
        exact hlp29_203808 ((γ0 2 (γ0 14 q203254) - (0 : Int).toNat) + 1) P203288 F203289 γ el 0 (gB_w (gBl (show Int32.toInt 0 = 0 by decide)) (by decide) (by decide)) hT203315 hs203316 hph203341 hB203331 ht203337 b1203296 r203339 r203340 ht203321 hf203322 (by have qa0 : Int32.toInt 0 = 0 := (by decide); omega) (by have qa0 : Int32.toInt 0 = 0 := (by decide); omega) (by have qa0 : Int32.toInt 0 = 0 := (by decide); omega) (by have qa0 : Int32.toInt 0 = 0 := (by decide); omega) (by have qa0 : Int32.toInt 0 = 0 := (by decide); omega) kb203323 (by have qa0 : Int32.toInt 0 = 0 := (by decide); omega) (by have qa0 : Int32.toInt 0 = 0 := (by decide); omega) hx0203283 (by have qa0 : Int32.toInt 0 = 0 := (by decide); omega) (Nat.lt_succ_self _)
  exact hlp6_203164 ((γ0 6 fo - (0 : Int).toNat) + 1) P189880 F189896 γ el 0 (gB_w (gBl (show Int32.toInt 0 = 0 by decide)) (by decide) (by decide)) hT189912 hs189913 hph189923 hB189922 (by have qa0 : Int32.toInt 0 = 0 := (by decide); omega) (by have qa0 : Int32.toInt 0 = 0 := (by decide); omega) (by have qa0 : Int32.toInt 0 = 0 := (by decide); omega) (by have qa0 : Int32.toInt 0 = 0 := (by decide); omega) (by have qa0 : Int32.toInt 0 = 0 := (by decide); omega) rKb_0 (by show γ 16 f ≤ 0; omega) (by have qa0 : Int32.toInt 0 = 0 := (by decide); omega) (Nat.lt_succ_self _)
