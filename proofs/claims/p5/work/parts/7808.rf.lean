theorem dr_cX17_load_0 : decode cX17_load 0 = .ok (.aload_n 0, 1) := by decide +kernel
theorem dr_cX17_load_1 : decode cX17_load 1 = .ok (.getfield 231, 3) := by decide +kernel
theorem wr_7_88 : (Jvm.Cond.fieldLink "SpillForgeModel" (231 : Nat) "SpillForgeModel" "temporaries" "I") ∈ gw := gw_7 88 rfl rfl
theorem dr_cX17_load_4 : decode cX17_load 4 = .ok (.sipush 2000, 3) := by decide +kernel
theorem dr_cX17_load_7 : decode cX17_load 7 = .ok (.if_icmp .ne 5, 3) := by decide +kernel
theorem dr_cX17_load_12 : decode cX17_load 12 = .ok (.aload_n 1, 1) := by decide +kernel
theorem dr_cX17_load_13 : decode cX17_load 13 = .ok (.invokevirtual 177, 3) := by decide +kernel
theorem wr_10_202 : (Jvm.Cond.methodLink "SpillForgeModel" (177 : Nat) ({ cls := "SpillForgeModel$Code", name := "row", desc := "()LSpillForgeModel$Row;" } : Jvm.MethodName)) ∈ gw := gw_10 202 rfl rfl
theorem wr_10_78 : (Jvm.Cond.code ({ cls := "SpillForgeModel$Code", name := "row", desc := "()LSpillForgeModel$Row;" } : Jvm.MethodName) prog_16_method_4_code (2 : Nat) (Option.some (Jvm.ClassFile.FieldType.object "SpillForgeModel$Row"))) ∈ gw := gw_10 78 rfl rfl
theorem wr_10_76 : (Jvm.Cond.instanceMethod ({ cls := "SpillForgeModel$Code", name := "row", desc := "()LSpillForgeModel$Row;" } : Jvm.MethodName)) ∈ gw := gw_10 76 rfl rfl
theorem wr_10_77 : (Jvm.Cond.selects "SpillForgeModel$Code" ({ cls := "SpillForgeModel$Code", name := "row", desc := "()LSpillForgeModel$Row;" } : Jvm.MethodName) ({ cls := "SpillForgeModel$Code", name := "row", desc := "()LSpillForgeModel$Row;" } : Jvm.MethodName)) ∈ gw := gw_10 77 rfl rfl
theorem dr_cX17_load_16 : decode cX17_load 16 = .ok (.astore 5, 2) := by decide +kernel
theorem dr_cX17_load_18 : decode cX17_load 18 = .ok (.aload 5, 2) := by decide +kernel
theorem dr_cX17_load_20 : decode cX17_load 20 = .ok (.bipush 21, 2) := by decide +kernel
theorem dr_cX17_load_22 : decode cX17_load 22 = .ok (.putfield 39, 3) := by decide +kernel
theorem dr_cX17_load_25 : decode cX17_load 25 = .ok (.aload 5, 2) := by decide +kernel
theorem dr_cX17_load_27 : decode cX17_load 27 = .ok (.aload_n 0, 1) := by decide +kernel
theorem dr_cX17_load_28 : decode cX17_load 28 = .ok (.getfield 231, 3) := by decide +kernel
theorem dr_cX17_load_31 : decode cX17_load 31 = .ok (.putfield 52, 3) := by decide +kernel
theorem dr_cX17_load_34 : decode cX17_load 34 = .ok (.aload 5, 2) := by decide +kernel
theorem dr_cX17_load_36 : decode cX17_load 36 = .ok (.iload 4, 2) := by decide +kernel
theorem dr_cX17_load_38 : decode cX17_load 38 = .ok (.putfield 45, 3) := by decide +kernel
theorem dr_cX17_load_41 : decode cX17_load 41 = .ok (.aload_n 2, 1) := by decide +kernel
theorem dr_cX17_load_42 : decode cX17_load 42 = .ok (.getfield 117, 3) := by decide +kernel
theorem dr_cX17_load_45 : decode cX17_load 45 = .ok (.iload_n 3, 1) := by decide +kernel
theorem dr_cX17_load_46 : decode cX17_load 46 = .ok (.aload 5, 2) := by decide +kernel
theorem dr_cX17_load_48 : decode cX17_load 48 = .ok (.invokevirtual 181, 3) := by decide +kernel
theorem wr_10_203 : (Jvm.Cond.methodLink "SpillForgeModel" (181 : Nat) ({ cls := "java/util/ArrayList", name := "add", desc := "(ILjava/lang/Object;)V" } : Jvm.MethodName)) ∈ gw := gw_10 203 rfl rfl
theorem wr_10_206 : (Jvm.Cond.code ({ cls := "java/util/ArrayList", name := "add", desc := "(ILjava/lang/Object;)V" } : Jvm.MethodName) prog_43_method_26_code (5 : Nat) (Option.none : Option Jvm.ClassFile.FieldType)) ∈ gw := gw_10 206 rfl rfl
theorem wr_10_204 : (Jvm.Cond.instanceMethod ({ cls := "java/util/ArrayList", name := "add", desc := "(ILjava/lang/Object;)V" } : Jvm.MethodName)) ∈ gw := gw_10 204 rfl rfl
theorem wr_10_205 : (Jvm.Cond.selects "java/util/ArrayList" ({ cls := "java/util/ArrayList", name := "add", desc := "(ILjava/lang/Object;)V" } : Jvm.MethodName) ({ cls := "java/util/ArrayList", name := "add", desc := "(ILjava/lang/Object;)V" } : Jvm.MethodName)) ∈ gw := gw_10 205 rfl rfl
theorem dr_cX17_load_51 : decode cX17_load 51 = .ok (.aload_n 0, 1) := by decide +kernel
theorem dr_cX17_load_52 : decode cX17_load 52 = .ok (.dup, 1) := by decide +kernel
theorem dr_cX17_load_53 : decode cX17_load 53 = .ok (.getfield 231, 3) := by decide +kernel
theorem dr_cX17_load_56 : decode cX17_load 56 = .ok (.iconst 1, 1) := by decide +kernel
theorem dr_cX17_load_57 : decode cX17_load 57 = .ok (.iadd, 1) := by decide +kernel
theorem dr_cX17_load_58 : decode cX17_load 58 = .ok (.putfield 231, 3) := by decide +kernel
theorem dr_cX17_load_61 : decode cX17_load 61 = .ok (.aload 5, 2) := by decide +kernel
theorem dr_cX17_load_63 : decode cX17_load 63 = .ok (.getfield 52, 3) := by decide +kernel
theorem dr_cX17_load_66 : decode cX17_load 66 = .ok (.ireturn, 1) := by decide +kernel
theorem dr_cX17_load_10 : decode cX17_load 10 = .ok (.iconst (-1), 1) := by decide +kernel
theorem dr_cX17_load_11 : decode cX17_load 11 = .ok (.ireturn, 1) := by decide +kernel
theorem dr_cX13_copy_0 : decode cX13_copy 0 = .ok (.aload_n 0, 1) := by decide +kernel
theorem dr_cX13_copy_1 : decode cX13_copy 1 = .ok (.invokevirtual 73, 3) := by decide +kernel
theorem wr_10_132 : (Jvm.Cond.methodLink "SpillForgeModel$Code" (73 : Nat) ({ cls := "SpillForgeModel$Code", name := "begin", desc := "()V" } : Jvm.MethodName)) ∈ gw := gw_10 132 rfl rfl
theorem wr_9_84 : (Jvm.Cond.code ({ cls := "SpillForgeModel$Code", name := "begin", desc := "()V" } : Jvm.MethodName) prog_16_method_2_code (1 : Nat) (Option.none : Option Jvm.ClassFile.FieldType)) ∈ gw := gw_9 84 rfl rfl
theorem wr_9_82 : (Jvm.Cond.instanceMethod ({ cls := "SpillForgeModel$Code", name := "begin", desc := "()V" } : Jvm.MethodName)) ∈ gw := gw_9 82 rfl rfl
theorem wr_9_83 : (Jvm.Cond.selects "SpillForgeModel$Code" ({ cls := "SpillForgeModel$Code", name := "begin", desc := "()V" } : Jvm.MethodName) ({ cls := "SpillForgeModel$Code", name := "begin", desc := "()V" } : Jvm.MethodName)) ∈ gw := gw_9 83 rfl rfl
theorem dr_cX13_copy_4 : decode cX13_copy 4 = .ok (.iconst 0, 1) := by decide +kernel
theorem dr_cX13_copy_5 : decode cX13_copy 5 = .ok (.istore_n 2, 1) := by decide +kernel
theorem dr_cX13_copy_6 : decode cX13_copy 6 = .ok (.iload_n 2, 1) := by decide +kernel
theorem dr_cX13_copy_7 : decode cX13_copy 7 = .ok (.aload_n 1, 1) := by decide +kernel
theorem dr_cX13_copy_8 : decode cX13_copy 8 = .ok (.invokevirtual 76, 3) := by decide +kernel
theorem wr_10_133 : (Jvm.Cond.methodLink "SpillForgeModel$Code" (76 : Nat) ({ cls := "SpillForgeModel$Code", name := "size", desc := "()I" } : Jvm.MethodName)) ∈ gw := gw_10 133 rfl rfl
theorem dr_cX13_copy_11 : decode cX13_copy 11 = .ok (.if_icmp .ge 106, 3) := by decide +kernel
theorem dr_cX13_copy_117 : decode cX13_copy 117 = .ok (.return_, 1) := by decide +kernel
theorem dr_cX13_copy_14 : decode cX13_copy 14 = .ok (.aload_n 1, 1) := by decide +kernel
theorem dr_cX13_copy_15 : decode cX13_copy 15 = .ok (.iload_n 2, 1) := by decide +kernel
theorem dr_cX13_copy_16 : decode cX13_copy 16 = .ok (.invokevirtual 67, 3) := by decide +kernel
theorem dr_cX13_copy_19 : decode cX13_copy 19 = .ok (.astore_n 3, 1) := by decide +kernel
theorem dr_cX13_copy_20 : decode cX13_copy 20 = .ok (.aload_n 0, 1) := by decide +kernel
theorem dr_cX13_copy_21 : decode cX13_copy 21 = .ok (.invokevirtual 77, 3) := by decide +kernel
theorem wr_10_138 : (Jvm.Cond.methodLink "SpillForgeModel$Code" (77 : Nat) ({ cls := "SpillForgeModel$Code", name := "block", desc := "()LSpillForgeModel$Block;" } : Jvm.MethodName)) ∈ gw := gw_10 138 rfl rfl
theorem wr_9_152 : (Jvm.Cond.code ({ cls := "SpillForgeModel$Code", name := "block", desc := "()LSpillForgeModel$Block;" } : Jvm.MethodName) prog_16_method_3_code (2 : Nat) (Option.some (Jvm.ClassFile.FieldType.object "SpillForgeModel$Block"))) ∈ gw := gw_9 152 rfl rfl
theorem wr_9_150 : (Jvm.Cond.instanceMethod ({ cls := "SpillForgeModel$Code", name := "block", desc := "()LSpillForgeModel$Block;" } : Jvm.MethodName)) ∈ gw := gw_9 150 rfl rfl
theorem wr_9_151 : (Jvm.Cond.selects "SpillForgeModel$Code" ({ cls := "SpillForgeModel$Code", name := "block", desc := "()LSpillForgeModel$Block;" } : Jvm.MethodName) ({ cls := "SpillForgeModel$Code", name := "block", desc := "()LSpillForgeModel$Block;" } : Jvm.MethodName)) ∈ gw := gw_9 151 rfl rfl
theorem dr_cX13_copy_24 : decode cX13_copy 24 = .ok (.astore 4, 2) := by decide +kernel
theorem dr_cX13_copy_26 : decode cX13_copy 26 = .ok (.iconst 0, 1) := by decide +kernel
theorem dr_cX13_copy_27 : decode cX13_copy 27 = .ok (.istore 5, 2) := by decide +kernel
theorem dr_cX13_copy_29 : decode cX13_copy 29 = .ok (.iload 5, 2) := by decide +kernel
theorem dr_cX13_copy_31 : decode cX13_copy 31 = .ok (.aload_n 3, 1) := by decide +kernel
theorem dr_cX13_copy_32 : decode cX13_copy 32 = .ok (.getfield 41, 3) := by decide +kernel
theorem dr_cX13_copy_35 : decode cX13_copy 35 = .ok (.invokevirtual 26, 3) := by decide +kernel
theorem dr_cX13_copy_38 : decode cX13_copy 38 = .ok (.if_icmp .ge 43, 3) := by decide +kernel
theorem dr_cX13_copy_81 : decode cX13_copy 81 = .ok (.aload 4, 2) := by decide +kernel
theorem dr_cX13_copy_83 : decode cX13_copy 83 = .ok (.getfield 89, 3) := by decide +kernel
theorem wr_9_220 : (Jvm.Cond.fieldLink "SpillForgeModel$Code" (89 : Nat) "SpillForgeModel$Block" "end" "LSpillForgeModel$Row;") ∈ gw := gw_9 220 rfl rfl
theorem dr_cX13_copy_86 : decode cX13_copy 86 = .ok (.aload_n 3, 1) := by decide +kernel
theorem dr_cX13_copy_87 : decode cX13_copy 87 = .ok (.getfield 89, 3) := by decide +kernel
theorem dr_cX13_copy_90 : decode cX13_copy 90 = .ok (.invokevirtual 85, 3) := by decide +kernel
theorem wr_10_140 : (Jvm.Cond.methodLink "SpillForgeModel$Code" (85 : Nat) ({ cls := "SpillForgeModel$Row", name := "put", desc := "(LSpillForgeModel$Row;)V" } : Jvm.MethodName)) ∈ gw := gw_10 140 rfl rfl
theorem wr_10_143 : (Jvm.Cond.code ({ cls := "SpillForgeModel$Row", name := "put", desc := "(LSpillForgeModel$Row;)V" } : Jvm.MethodName) prog_18_method_6_code (2 : Nat) (Option.none : Option Jvm.ClassFile.FieldType)) ∈ gw := gw_10 143 rfl rfl
theorem wr_10_141 : (Jvm.Cond.instanceMethod ({ cls := "SpillForgeModel$Row", name := "put", desc := "(LSpillForgeModel$Row;)V" } : Jvm.MethodName)) ∈ gw := gw_10 141 rfl rfl
theorem wr_10_142 : (Jvm.Cond.selects "SpillForgeModel$Row" ({ cls := "SpillForgeModel$Row", name := "put", desc := "(LSpillForgeModel$Row;)V" } : Jvm.MethodName) ({ cls := "SpillForgeModel$Row", name := "put", desc := "(LSpillForgeModel$Row;)V" } : Jvm.MethodName)) ∈ gw := gw_10 142 rfl rfl
theorem dr_cX13_copy_93 : decode cX13_copy 93 = .ok (.aload 4, 2) := by decide +kernel
theorem dr_cX13_copy_95 : decode cX13_copy 95 = .ok (.aload_n 3, 1) := by decide +kernel
theorem dr_cX13_copy_96 : decode cX13_copy 96 = .ok (.getfield 93, 3) := by decide +kernel
theorem wr_9_223 : (Jvm.Cond.fieldLink "SpillForgeModel$Code" (93 : Nat) "SpillForgeModel$Block" "first" "I") ∈ gw := gw_9 223 rfl rfl
theorem dr_cX13_copy_99 : decode cX13_copy 99 = .ok (.putfield 93, 3) := by decide +kernel
theorem dr_cX13_copy_102 : decode cX13_copy 102 = .ok (.aload 4, 2) := by decide +kernel
theorem dr_cX13_copy_104 : decode cX13_copy 104 = .ok (.aload_n 3, 1) := by decide +kernel
theorem dr_cX13_copy_105 : decode cX13_copy 105 = .ok (.getfield 96, 3) := by decide +kernel
theorem wr_9_227 : (Jvm.Cond.fieldLink "SpillForgeModel$Code" (96 : Nat) "SpillForgeModel$Block" "second" "I") ∈ gw := gw_9 227 rfl rfl
theorem dr_cX13_copy_108 : decode cX13_copy 108 = .ok (.putfield 96, 3) := by decide +kernel
theorem dr_cX13_copy_111 : decode cX13_copy 111 = .ok (.iinc 2 1, 3) := by decide +kernel
theorem dr_cX13_copy_114 : decode cX13_copy 114 = .ok (.goto (-108), 3) := by decide +kernel
theorem dr_cX13_copy_41 : decode cX13_copy 41 = .ok (.aload_n 0, 1) := by decide +kernel
theorem dr_cX13_copy_42 : decode cX13_copy 42 = .ok (.invokevirtual 81, 3) := by decide +kernel
theorem wr_10_139 : (Jvm.Cond.methodLink "SpillForgeModel$Code" (81 : Nat) ({ cls := "SpillForgeModel$Code", name := "row", desc := "()LSpillForgeModel$Row;" } : Jvm.MethodName)) ∈ gw := gw_10 139 rfl rfl
theorem dr_cX13_copy_45 : decode cX13_copy 45 = .ok (.astore 6, 2) := by decide +kernel
theorem dr_cX13_copy_47 : decode cX13_copy 47 = .ok (.aload 6, 2) := by decide +kernel
theorem dr_cX13_copy_49 : decode cX13_copy 49 = .ok (.aload_n 3, 1) := by decide +kernel
theorem dr_cX13_copy_50 : decode cX13_copy 50 = .ok (.getfield 41, 3) := by decide +kernel
theorem dr_cX13_copy_53 : decode cX13_copy 53 = .ok (.iload 5, 2) := by decide +kernel
theorem dr_cX13_copy_55 : decode cX13_copy 55 = .ok (.invokevirtual 37, 3) := by decide +kernel
theorem dr_cX13_copy_58 : decode cX13_copy 58 = .ok (.checkcast 45, 3) := by decide +kernel
theorem dr_cX13_copy_61 : decode cX13_copy 61 = .ok (.invokevirtual 85, 3) := by decide +kernel
theorem dr_cX13_copy_64 : decode cX13_copy 64 = .ok (.aload 4, 2) := by decide +kernel
theorem dr_cX13_copy_66 : decode cX13_copy 66 = .ok (.getfield 41, 3) := by decide +kernel
theorem dr_cX13_copy_69 : decode cX13_copy 69 = .ok (.aload 6, 2) := by decide +kernel
theorem dr_cX13_copy_71 : decode cX13_copy 71 = .ok (.invokevirtual 33, 3) := by decide +kernel
theorem dr_cX13_copy_74 : decode cX13_copy 74 = .ok (.pop, 1) := by decide +kernel
theorem dr_cX13_copy_75 : decode cX13_copy 75 = .ok (.iinc 5 1, 3) := by decide +kernel
theorem dr_cX13_copy_78 : decode cX13_copy 78 = .ok (.goto (-49), 3) := by decide +kernel
abbrev ky_189834_Code_copy : gKey := (cX13_copy, 7, "SpillForgeModel$Code", none, [], "copy", fun _ _ => True)
def pg_189834_Code_copy (D : va_G) (I : FieldType → ClassId) (γ0 el0 : Nat → Nat → Nat) (f : Nat) (fo : Nat) (B : Nat) (P189827 : List Nat) (F189828 : Nat → va_E) (q189829 : Nat) (q189830 : Nat) : Option Value → va_W → Nat → Nat → Prop := fun r w dc ds => ∃ (P204184 : List Nat) (F204185 : Nat → va_E) (γ el : Nat → Nat → Nat), r = none ∧ w = va_pl P204184 F204185 ∧ rSk f [1, 2, 3, 101, 102, 103, 202] ([1, 2, 3, 4, 5, 6, 7, 8, 9, 101, 102, 103, 202]) D I P189827 F189828 γ0 el0 P204184 F204185 γ el ∧ (18 * dc + rPh γ0 el0 f ≤ rPh γ el f ∧ ds + rPh γ0 el0 f ≤ rPh γ el f) ∧ rBd γ el f B ∧ γ 6 f = γ0 6 fo ∧ γ 7 f = 0 ∧ γ 16 f ≤ γ0 16 fo ∧ γ 18 f = 0
set_option maxRecDepth 100000 in
set_option maxHeartbeats 1500000 in
theorem cg_189834_Code_copy (l : Launch) (hl0 : l.stackTraces = false) (D : va_G) (I : FieldType → ClassId) (γ0 el0 : Nat → Nat → Nat) (f : Nat) (fo : Nat) (B : Nat) (P189827 : List Nat) (F189828 : Nat → va_E) (q189829 : Nat) (q189830 : Nat) (hT0 : RS D I P189827 F189828 γ0 el0) (hzq189829 : rKd γ0 q189829 9) (hzq189830 : rKd γ0 q189830 9) (hf0 : γ0 1 q189829 = f) (hfo0 : γ0 1 q189830 = fo) (hne : fo ≠ f) (hB0 : rBd γ0 el0 f B) (hBk : B ≤ 100000) (x189831 : 0 < γ0 6 fo) (x189832 : γ0 7 fo = 0) (x189833 : γ0 16 fo ≤ B) : CtA (gV D I) l yX13_copy cX13_copy 7 none 8 170 (((387 * B + 6000) - rPh γ0 el0 f) / 18) ((387 * B + 6000) - rPh γ0 el0 f) [.ref q189829, .ref q189830] (va_pl P189827 F189828) (pg_189834_Code_copy D I γ0 el0 f fo B P189827 F189828 q189829 q189830) gNA := by
  refine CtA_of hl0 (by decide) (Nat.le_of_ble_eq_true rfl) ?_
  obtain ⟨γ, hγ0⟩ : ∃ z, z = γ0 := ⟨_, rfl⟩
  obtain ⟨el, hel0⟩ : ∃ z, z = el0 := ⟨_, rfl⟩
  have hT : RS D I P189827 F189828 γ el := by rw [hγ0, hel0]; exact hT0
  have hst : rSk f [1, 2, 3, 101, 102, 103, 202] ([1, 2, 3, 4, 5, 6, 7, 8, 9, 101, 102, 103, 202]) D I P189827 F189828 γ0 el0 P189827 F189828 γ el := by rw [hγ0, hel0]; exact rSk_rf hT0
  have hph : rPh γ0 el0 f ≤ rPh γ el f := by rw [hγ0, hel0]; exact Nat.le_refl _
  have hB : rBd γ el f B := by rw [hγ0, hel0]; exact hB0
  have htq189829 : rKd γ q189829 9 := by rw [hγ0]; exact hzq189829
  have htq189830 : rKd γ q189830 9 := by rw [hγ0]; exact hzq189830
  have hf1 : γ 1 q189829 = f := by rw [hγ0]; exact hf0
  have hfo1 : γ 1 q189830 = fo := by rw [hγ0]; exact hfo0
  have x189831n : 0 < γ 6 fo := by rw [hγ0]; exact x189831
  have x189832n : γ 7 fo = 0 := by rw [hγ0]; exact x189832
  have x189833n : γ 16 fo ≤ B := by rw [hγ0]; exact x189833
  have pk189835 : rPh γ el f ≤ 387 * B + 6000 := rm_pk (rM_ge hT htq189829 hf1).1 (rM_bd hB)
  refine G_widen (cs' := ((rPh γ el f - rPh γ0 el0 f) / 18)) (sl' := (rPh γ el f - rPh γ0 el0 f)) (Nat.zero_le _) (Nat.zero_le _) ?_
  have r189836 := rSk_g hst hne
  have r189837 : 0 < γ 6 (γ 1 q189830) := by rw [hfo1, r189836.1]; exact x189831
  have r189838 : γ 6 fo = γ0 6 fo := r189836.1
  have r189839 : γ 7 fo = 0 := by rw [r189836.2.1]; exact x189832
  refine G_aload_n 0 dr_cX13_copy_0 rfl ?_
  have rg189840 := rM_ge hT htq189829 hf1
  have rm189841 := rM_bd hB
  have bd189842 := rBd_c hT htq189829 hf1 hB
  refine Gt_beg (c := q189829) (f := f) (γ0 6 fo) hl0 dr_cX13_copy_1 ⟨wr_10_132, wr_1_15, wr_9_84, by decide, rfl, (Nat.le_of_ble_eq_true rfl), (Nat.le_of_ble_eq_true rfl)⟩ wr_9_82 wr_9_83 hT htq189829 hf1 (rm_zc pk189835) (rm_zs pk189835) (Nat.le_of_ble_eq_true rfl) (fun F189843 γ el hq189844 => ?_)
  obtain ⟨hk189845, h6189846, h7189847, h16189848, h18189849, h19189850, h23189851, h2189852, hel189853, hmd189854, hr189855, hM189856, hBB189857⟩ := hq189844
  have hk189858 := rSk_of hk189845
  have hT189859 := hk189858.1
  have hs189860 := rSk_tr hst hk189858 (by decide) (by decide) (by decide)
  have ht189861 : rKd γ q189829 9 := rSk_k hk189858 htq189829 (by decide) (by decide)
  have hf189862 : γ 1 q189829 = f := rSk_1 hk189858 htq189829 (by decide) hf1
  have ht189863 : rKd γ q189830 9 := rSk_kf hk189858 htq189830 (by decide) (by rw [hfo1]; exact hne)
  have hf189864 : γ 1 q189830 = fo := rSk_1 hk189858 htq189830 (by decide) hfo1
  clear rg189840 rm189841 bd189842
  have r189865 := rSk_g hs189860 hne
  have r189866 : 0 < γ 6 (γ 1 q189830) := by rw [hf189864, r189865.1]; exact x189831
  have r189867 : γ 6 fo = γ0 6 fo := r189865.1
  have r189868 : γ 7 fo = 0 := by rw [r189865.2.1]; exact x189832
  have hB189869 : rBd γ el f B := hBB189857 B hB
  have hph189870 : rPh γ0 el0 f ≤ rPh γ el f := by rw [hr189855]; exact hph
  have pk189871 : rPh γ el f ≤ 387 * B + 6000 := rm_pk (rM_ge hT189859 ht189861 hf189862).1 (rM_bd hB189869)
  refine G_widen (cs' := ((rPh γ el f - rPh γ0 el0 f) / 18)) (sl' := (rPh γ el f - rPh γ0 el0 f)) (rm_ec hr189855) (rm_es hr189855) ?_
  refine G_iconst 0 dr_cX13_copy_4 (by decide +kernel) ?_
  refine G_istore_n (L' := [(2, .int 0), (0, .ref q189829), (1, .ref q189830)]) dr_cX13_copy_5 (Nat.le_of_ble_eq_true rfl) rfl ?_
  have hlp6_203111 : ∀ (n6_203111 : Nat) (P203098 : List Nat) (F203099 : Nat → va_E) (γ el : Nat → Nat → Nat) (g203097 : Int32), gB g203097 0 1000000 → RS D I P203098 F203099 γ el → rSk f [1, 2, 3, 101, 102, 103, 202] ([1, 2, 3, 4, 5, 6, 7, 8, 9, 101, 102, 103, 202]) D I P189827 F189828 γ0 el0 P203098 F203099 γ el → rPh γ0 el0 f ≤ rPh γ el f → rBd γ el f B → γ 6 f = 0 → γ 19 f = γ0 6 fo → γ 18 f = 0 → γ 7 f = 0 → (fI (F203099 q189829) 3).toInt = g203097.toInt → rKb γ el q189829 (g203097.toInt : Int).toNat → γ 16 f ≤ rsum (fun i => γ0 2 (γ0 14 (el0 (γ0 14 q189830) i))) (g203097.toInt : Int).toNat → (g203097.toInt : Int) ≤ γ0 6 fo → (γ0 6 fo - (g203097.toInt : Int).toNat) < n6_203111 → G (gV D I) l (gRm 8 170 (((387 * B + 6000) - rPh γ0 el0 f) / 18) ((387 * B + 6000) - rPh γ0 el0 f)) (gMA (gV D I) (pg_189834_Code_copy D I γ0 el0 f fo B P189827 F189828 q189829 q189830) gNA (((387 * B + 6000) - rPh γ0 el0 f) / 18) ((387 * B + 6000) - rPh γ0 el0 f)) ky_189834_Code_copy 6 [(2, .int g203097), (0, .ref q189829), (1, .ref q189830)] [] (va_pl P203098 F203099) ((rPh γ el f - rPh γ0 el0 f) / 18) (rPh γ el f - rPh γ0 el0 f) := by
    intro n6_203111
    induction n6_203111 with
    | zero => intro P203098 F203099 γ el g203097 bg203097 hT203100 hs203101 hph203102 hB203103 x203104 x203105 x203106 x203107 x203108 x203109 x203110 x203111 hm6_203111; exact absurd hm6_203111 (Nat.not_lt_zero _)
    | succ n6_203111 ih6_203111 =>
      intro P203098 F203099 γ el g203097 bg203097 hT203100 hs203101 hph203102 hB203103 x203104 x203105 x203106 x203107 x203108 x203109 x203110 x203111 hm6_203111
      clear h6189846 h7189847 h16189848 h18189849 h19189850 h23189851 h2189852 hmd189854 hr189855 hM189856 r189865 r189866 r189867 r189868 hph189870 pk189871
      have ht203113 : rKd γ q189829 9 := rSk_k hs203101 hzq189829 (by decide) (by decide)
      have hf203114 : γ 1 q189829 = f := rSk_1 hs203101 hzq189829 (by decide) hf0
      have ht203115 : rKd γ q189830 9 := rSk_k hs203101 hzq189830 (by decide) (by decide)
      have hf203116 : γ 1 q189830 = fo := rSk_1 hs203101 hzq189830 (by decide) hfo0
      have pk203117 : rPh γ el f ≤ 387 * B + 6000 := rm_pk (rM_ge hT203100 ht203113 hf203114).1 (rM_bd hB203103)
      have r203118 := rSk_g hs203101 hne
      have r203119 : 0 < γ 6 (γ 1 q189830) := by rw [hf203116, r203118.1]; exact x189831
      have r203120 : γ 6 fo = γ0 6 fo := r203118.1
      have r203121 : γ 7 fo = 0 := by rw [r203118.2.1]; exact x189832
      refine G_iload_n 0 dr_cX13_copy_6 rfl ?_
      refine G_aload_n 2 dr_cX13_copy_7 rfl ?_
      have hm203122 : q189830 ∈ P203098 := RS_m hT203100 ht203115 (by decide)
      obtain ⟨q203124, q203125, p203126, p203127, he203123, ht203143, ht203128, ht203129, ht203130, ht203131, r203132, r203133, r203134, r203135, r203136, r203137, r203138, r203139, r203140, r203141, r203142⟩ := show rk_9 γ el q189830 (F203099 q189830) from RS_o hT203100 ht203115
      have bp203126 : gB p203126 0 1000000 := ⟨by omega, by omega⟩
      have bp203127 : gB p203127 0 1000000 := ⟨by omega, by omega⟩
      have hf203144 : γ 1 q203124 = fo := (show γ 1 q203124 = γ 1 q189830 from ht203129).trans hf203116
      have hf203145 : γ 1 q203125 = fo := (show γ 1 q203125 = γ 1 q189830 from ht203131).trans hf203116
      have r203146 : γ 6 (γ 1 q189830) = γ 6 fo := by rw [hf203116]
      have r203147 : γ 16 (γ 1 q189830) = γ 16 fo := by rw [hf203116]
      have r203148 : p203127.toInt = γ 6 fo ∧ p203127.toInt ≤ 40 := by omega
      clear r203138
      refine Gw_callV (As := []) (gV_ok D I) (cp_12496_Code_size l hl0 D I P203098 F203099 q189830 q203124 q203125 p203126 p203127 hm203122 he203123) dr_cX13_copy_8 ⟨wr_10_133, wr_1_15, wr_9_127, by decide, rfl, (Nat.le_of_ble_eq_true rfl), (Nat.le_of_ble_eq_true rfl)⟩ wr_9_125 wr_9_126 hm203122 he203123 rfl (rm_zc pk203117) (rm_zs pk203117) (Nat.le_of_ble_eq_true rfl) (fun r203152 w203153 dc203149 ds203150 hp203151 => ?_) (fun _ _ _ _ _ z => z.elim)
      obtain ⟨rfl, rfl, hdc, hds⟩ := hp203151
      change G _ _ _ _ _ _ _ (.int p203127 :: _) _ _ _
      refine G_widen (cs' := ((rPh γ el f - rPh γ0 el0 f) / 18)) (sl' := (rPh γ el f - rPh γ0 el0 f)) (rm_d0 hdc) (rm_d0 hds) ?_
      refine G_icmp_ge 117 dr_cX13_copy_11 (by decide +kernel) (fun hc203154 => ?_) (fun hc203154 => ?_)
      · have r203155 : p203127.toInt ≤ g203097.toInt := gC_le hc203154
        have r203156 := RS_valid hT0 hzq189830 hfo0 x189831
        have r203157 : (g203097.toInt : Int).toNat = γ0 6 fo := by omega
        have kb203158 := x203109
        rw [r203157] at kb203158
        have hv203159 := St_val (f := f) (n := γ0 6 fo) hT203100 ht203113 hf203114 (by omega) x189831 (by omega) (by omega) (by omega) kb203158
        obtain ⟨γ, hg203160⟩ : ∃ z, z = gVal γ 6 f (γ0 6 fo) := ⟨_, rfl⟩
        rw [← hg203160] at hv203159
        have hk203161 := rSk_of hv203159.1
        have r203162 := hv203159.2.1
        have hT203163 := hk203161.1
        have hs203164 := rSk_tr hs203101 hk203161 (by decide) (by decide) (by decide)
        have ht203165 : rKd γ q189829 9 := rSk_k hk203161 ht203113 (by decide) (by decide)
        have hf203166 : γ 1 q189829 = f := rSk_1 hk203161 ht203113 (by decide) hf203114
        have ht203167 : rKd γ q189830 9 := rSk_kf hk203161 ht203115 (by decide) (by rw [hf203116]; exact hne)
        have hf203168 : γ 1 q189830 = fo := rSk_1 hk203161 ht203115 (by decide) hf203116
        have kb203169 : rKb γ el q189829 (g203097.toInt : Int).toNat := rKb_t x203109 hk203161 (by decide) (rSk_s hk203161 ht203113 (by decide)).2.1 (fun _ _ => rfl)
        clear r203132 r203133 r203134 r203135 r203136 r203137 r203139 r203140 r203141 r203142 bp203126 bp203127
        have r203170 := rSk_g hs203164 hne
        have r203171 : 0 < γ 6 (γ 1 q189830) := by rw [hf203168, r203170.1]; exact x189831
        have r203172 : γ 6 fo = γ0 6 fo := r203170.1
        have r203173 : γ 7 fo = 0 := by rw [r203170.2.1]; exact x189832
        have hB203174 : rBd γ el f B := hv203159.2.2.2 B hB203103
        have hph203175 : rPh γ0 el0 f ≤ rPh γ el f := by rw [r203162]; exact hph203102
        have pk203176 : rPh γ el f ≤ 387 * B + 6000 := rm_pk (rM_ge hT203163 ht203165 hf203166).1 (rM_bd hB203174)
        refine G_widen (cs' := ((rPh γ el f - rPh γ0 el0 f) / 18)) (sl' := (rPh γ el f - rPh γ0 el0 f)) (rm_ec r203162) (rm_es r203162) ?_
        have r203177 := gVal_n hg203160
        have r203178 := rsum_m (f := fun i => γ0 2 (γ0 14 (el0 (γ0 14 q189830) i))) _ (show (g203097.toInt : Int).toNat ≤ γ0 6 fo by omega)
        exact G_vretA dr_cX13_copy_117 rfl (show ((rPh γ el f - rPh γ0 el0 f) / 18) ≤ (((387 * B + 6000) - rPh γ0 el0 f) / 18) by omega) (show (rPh γ el f - rPh γ0 el0 f) ≤ ((387 * B + 6000) - rPh γ0 el0 f) by omega) ⟨P203098, F203099, γ, el, rfl, rfl, hs203164, ⟨by omega, by omega⟩, hB203174, (by omega), (by omega), (by omega), (by omega)⟩
      · have r203179 : g203097.toInt < p203127.toInt := gC_nle hc203154
        have bg203097' : gB g203097 0 999999 := ⟨by omega, by omega⟩
        have bp203127' : gB p203127 1 1000000 := ⟨by omega, by omega⟩
        refine G_aload_n 2 dr_cX13_copy_14 rfl ?_
        refine G_iload_n 0 dr_cX13_copy_15 rfl ?_
        have hm203180 : q203124 ∈ P203098 := RS_m hT203100 ht203128 (by decide)
        obtain ⟨⟨p203182, p203183, q203184, he203181, r203185, r203186, r203187, r203189⟩, r203188⟩ := show rk_4 D I γ el F203099 q203124 from RS_o hT203100 ht203128
        have bp203182 := gB_any p203182
        have bp203183 : gB p203183 0 1000000 := ⟨by omega, by omega⟩
        obtain ⟨r203190, r203191, n203198, f203199, r203192, r203193, r203194, r203195, r203196, r203197⟩ := rLC_n r203187 (by omega)
        have hm203200 : q203184 ∈ P203098 := RS_m hT203100 r203190 (by decide)
        obtain ⟨q203201, hx203202⟩ : ∃ x, x = el q203124 g203097.toInt.toNat := ⟨_, rfl⟩
        have hx203203 : f203199 g203097.toNatClampNeg = some q203201 := (r203196 _ (show g203097.toInt.toNat < γ 2 q203124 by first | assumption | omega)).trans (by rw [hx203202])
        have ht203206 : rKd γ q203201 2 := by rw [hx203202]; exact (r203139 _ (by omega)).resolve_right (fun z => absurd z.1 (by omega))
        have ht203207 : rFm γ q203201 q203124 := by rw [hx203202]; exact (r203188 _ (show g203097.toInt.toNat < γ 2 q203124 by omega)).2.1
        have hm203208 : q203201 ∈ P203098 := RS_m hT203100 ht203206 (by decide)
        obtain ⟨q203210, q203211, p203212, p203213, he203209, ht203220, ht203214, ht203215, ht203216, ht203217, ht203218, bp203212, bp203213, r203219, r203221, r203222⟩ := show rk_2 γ q203201 (F203099 q203201) from RS_o hT203100 ht203206
        refine Gw_callV (As := [.int g203097]) (gV_ok D I) (cp_7737_Code_get l hl0 D I P203098 F203099 q189830 q203124 q203184 g203097 q203125 p203126 p203127 p203182 p203183 f203199 n203198 q203201 q203210 q203211 p203212 p203213 hm203122 hm203180 hm203200 hm203208 he203123 he203181 r203192 he203209 (gB_w bg203097' (by decide) (by decide)) (gB_w bp203183 (by decide) (by decide)) (by omega) (by omega) (by assumption) (by omega)) dr_cX13_copy_16 ⟨wr_10_134, wr_1_15, wr_10_137, by decide, rfl, (Nat.le_of_ble_eq_true rfl), (Nat.le_of_ble_eq_true rfl)⟩ wr_10_135 wr_10_136 hm203122 he203123 rfl (rm_zc pk203117) (rm_zs pk203117) (Nat.le_of_ble_eq_true rfl) (fun r203226 w203227 dc203223 ds203224 hp203225 => ?_) (fun _ _ _ _ _ z => z.elim)
        obtain ⟨rfl, rfl, hdc, hds⟩ := hp203225
        change G _ _ _ _ _ _ _ (.ref q203201 :: _) _ _ _
        refine G_widen (cs' := ((rPh γ el f - rPh γ0 el0 f) / 18)) (sl' := (rPh γ el f - rPh γ0 el0 f)) (rm_d0 hdc) (rm_d0 hds) ?_
        have r203228 := RS_valid hT0 hzq189830 hfo0 x189831
        have r203229 := rSk_o (i := g203097.toInt.toNat) hT0 hs203101 hzq189830 (by rw [hfo0]; exact hne)
        have hx0203230 : q203201 = el0 (γ0 14 q189830) (g203097.toInt : Int).toNat := by rw [hx203202, ← ht203143.1, r203229.1, r203229.2.2.1]
        have hf203231 : γ 1 q203201 = fo := (show γ 1 q203201 = γ 1 q203124 from ht203207).trans ((show γ 1 q203124 = γ 1 q189830 from ht203129).trans hf203116)
        refine G_astore_n (L' := [(3, .ref q203201), (2, .int g203097), (0, .ref q189829), (1, .ref q189830)]) dr_cX13_copy_19 (Nat.le_of_ble_eq_true rfl) rfl ?_
        refine G_aload_n 2 dr_cX13_copy_20 rfl ?_
        have rg203232 := rM_ge hT203100 ht203113 hf203114
        have rm203233 := rM_bd hB203103
        have bd203234 := rBd_c hT203100 ht203113 hf203114 hB203103
        refine Gt_block (c := q189829) (f := f) hl0 dr_cX13_copy_21 ⟨wr_10_138, wr_1_15, wr_9_152, by decide, rfl, (Nat.le_of_ble_eq_true rfl), (Nat.le_of_ble_eq_true rfl)⟩ wr_9_150 wr_9_151 hT203100 ht203113 hf203114 (by omega) (Nat.le_trans bd203234.2.1 (by decide)) (rm_cs hph203102 rg203232.1 rm203233 (by decide)) (rm_sl hph203102 rg203232.1 rm203233 rm_s25) (Nat.le_of_ble_eq_true rfl) (fun P203235 F203236 γ el q203237 dc203238 ds203239 hq203240 => ?_)
        obtain ⟨hk203241, b0203242, b1203243, ⟨jb203244, j1203245, j2203246, j3203247, j4203248, j5203249, j6203250⟩, hz203251, h16203252, h18203253, hnu203254, hot203255, h45203256, ⟨hr1203257, hr2203258⟩, hM203259, hBB203260⟩ := hq203240
        have hk203261 := rSk_of hk203241
        have hT203262 := hk203261.1
        have hs203263 := rSk_tr hs203101 hk203261 (by decide) (by decide) (by decide)
        have ht203264 : rKd γ q189829 9 := rSk_k hk203261 ht203113 (by decide) (by decide)
        have hf203265 : γ 1 q189829 = f := rSk_1 hk203261 ht203113 (by decide) hf203114
        have ht203266 : rKd γ q189830 9 := rSk_kf hk203261 ht203115 (by decide) (by rw [hf203116]; exact hne)
        have hf203267 : γ 1 q189830 = fo := rSk_1 hk203261 ht203115 (by decide) hf203116
        have ht203268 : rKd γ q203201 2 := rSk_kf hk203261 ht203206 (by decide) (by rw [hf203231]; exact hne)
        have hf203269 : γ 1 q203201 = fo := rSk_1 hk203261 ht203206 (by decide) hf203231
        have kb203270 : rKb γ el q189829 (g203097.toInt : Int).toNat := rKb_t x203109 hk203261 (by decide) (rSk_s hk203261 ht203113 (by decide)).2.1 (fun i hi => j6203250 i (by omega))
        clear r203132 r203133 r203134 r203135 r203136 r203137 r203139 r203140 r203141 r203142 bp203126 bp203127 bp203212 bp203213 r203221 r203222 rg203232 rm203233 bd203234
        clear r203219
        have r203271 := rSk_g hs203263 hne
        have r203272 : 0 < γ 6 (γ 1 q189830) := by rw [hf203267, r203271.1]; exact x189831
        have r203273 : γ 6 fo = γ0 6 fo := r203271.1
        have r203274 : γ 7 fo = 0 := by rw [r203271.2.1]; exact x189832
        have r203276 := RS_valid hT0 hzq189830 hfo0 x189831
        have r203275 := (rSk_o (i := g203097.toInt.toNat) hT0 hs203263 hzq189830 (by rw [hfo0]; exact hne)).2.2.2 (by omega)
        rw [← hx0203230] at r203275
        have xs203277 : γ 2 (γ 14 q203201) = γ0 2 (γ0 14 q203201) := by rw [r203275.1]; exact r203275.2.1
        have hB203278 : rBd γ el f B := hBB203260 B (by omega) hB203103
        have r203279 := (rSk_s hk203261 ht203113 (by decide)).2.1
        obtain ⟨nu203280, nu203281, nu203282, nu203283⟩ := hnu203254
        have ht203284 : rKd γ q203237 202 := b0203242
        have r203285 : (g203097.toInt : Int).toNat = jb203244 := by omega
        have r203286 : (g203097.toInt : Int).toNat < γ 2 (γ 14 q189829) := by rw [r203279, r203285]; exact j3203247
        have r203287 : el (γ 14 q189829) (g203097.toInt : Int).toNat = q203237 := by rw [r203279, r203285]; exact j4203248
        have hph203288 : rPh γ0 el0 f ≤ rPh γ el f := rm_ph hph203102 hr2203258
        have pk203289 : rPh γ el f ≤ 387 * B + 6000 := rm_pk (rM_ge hT203262 ht203264 hf203265).1 (rM_bd hB203278)
        refine G_widen (cs' := ((rPh γ el f - rPh γ0 el0 f) / 18)) (sl' := (rPh γ el f - rPh γ0 el0 f)) (rm_wc hph203102 hr1203257) (rm_ws hph203102 hr2203258) ?_
        refine G_astore (L' := [(4, .ref q203237), (3, .ref q203201), (2, .int g203097), (0, .ref q189829), (1, .ref q189830)]) dr_cX13_copy_24 (Nat.le_of_ble_eq_true rfl) rfl ?_
        refine G_iconst 0 dr_cX13_copy_26 (by decide +kernel) ?_
        refine G_istore (L' := [(5, .int 0), (4, .ref q203237), (3, .ref q203201), (2, .int g203097), (0, .ref q189829), (1, .ref q189830)]) dr_cX13_copy_27 (Nat.le_of_ble_eq_true rfl) rfl ?_
        have hlp29_203755 : ∀ (n29_203755 : Nat) (P203734 : List Nat) (F203735 : Nat → va_E) (γ el : Nat → Nat → Nat) (g203733 : Int32), gB g203733 0 1000000 → RS D I P203734 F203735 γ el → rSk f [1, 2, 3, 101, 102, 103, 202] ([1, 2, 3, 4, 5, 6, 7, 8, 9, 101, 102, 103, 202]) D I P189827 F189828 γ0 el0 P203734 F203735 γ el → rPh γ0 el0 f ≤ rPh γ el f → rBd γ el f B → rKd γ q203237 202 → γ 1 q203237 = f → (g203097.toInt : Int).toNat < γ 2 (γ 14 q189829) → el (γ 14 q189829) (g203097.toInt : Int).toNat = q203237 → rKd γ q203201 2 → γ 1 q203201 = fo → γ 6 f = 0 → γ 19 f = γ0 6 fo → γ 18 f = 0 → γ 7 f = 0 → (fI (F203735 q189829) 3).toInt = g203097.toInt + 1 → rKb γ el q189829 (g203097.toInt : Int).toNat → γ 16 f ≤ rsum (fun i => γ0 2 (γ0 14 (el0 (γ0 14 q189830) i))) (g203097.toInt : Int).toNat + (g203733.toInt : Int).toNat → (g203097.toInt : Int) < γ0 6 fo → q203201 = el0 (γ0 14 q189830) (g203097.toInt : Int).toNat → (g203733.toInt : Int) ≤ γ0 2 (γ0 14 q203201) → (γ0 2 (γ0 14 q203201) - (g203733.toInt : Int).toNat) < n29_203755 → G (gV D I) l (gRm 8 170 (((387 * B + 6000) - rPh γ0 el0 f) / 18) ((387 * B + 6000) - rPh γ0 el0 f)) (gMA (gV D I) (pg_189834_Code_copy D I γ0 el0 f fo B P189827 F189828 q189829 q189830) gNA (((387 * B + 6000) - rPh γ0 el0 f) / 18) ((387 * B + 6000) - rPh γ0 el0 f)) ky_189834_Code_copy 29 [(5, .int g203733), (4, .ref q203237), (3, .ref q203201), (2, .int g203097), (0, .ref q189829), (1, .ref q189830)] [] (va_pl P203734 F203735) ((rPh γ el f - rPh γ0 el0 f) / 18) (rPh γ el f - rPh γ0 el0 f) := by
          intro n29_203755
          induction n29_203755 with
          | zero => intro P203734 F203735 γ el g203733 bg203733 hT203736 hs203737 hph203738 hB203739 ht203740 hf203741 r203742 r203743 ht203744 hf203745 x203746 x203747 x203748 x203749 x203750 x203751 x203752 x203753 x203754 x203755 hm29_203755; exact absurd hm29_203755 (Nat.not_lt_zero _)
          | succ n29_203755 ih29_203755 =>
            intro P203734 F203735 γ el g203733 bg203733 hT203736 hs203737 hph203738 hB203739 ht203740 hf203741 r203742 r203743 ht203744 hf203745 x203746 x203747 x203748 x203749 x203750 x203751 x203752 x203753 x203754 x203755 hm29_203755
            clear r203146 r203147 r203148 r203185 r203186 r203187 r203189 r203188 r203190 r203191 r203192 r203193 r203194 r203195 r203196 r203197 r203228 r203229 j1203245 j2203246 j3203247 j5203249 h16203252 h18203253 hr1203257 hr2203258 hM203259 r203271 r203272 r203273 r203274 r203276 r203275 r203279 nu203280 nu203281 nu203282 nu203283 r203285 r203286 r203287 hph203288 pk203289
            have ht203757 : rKd γ q189829 9 := rSk_k hs203737 hzq189829 (by decide) (by decide)
            have hf203758 : γ 1 q189829 = f := rSk_1 hs203737 hzq189829 (by decide) hf0
            have ht203759 : rKd γ q189830 9 := rSk_k hs203737 hzq189830 (by decide) (by decide)
            have hf203760 : γ 1 q189830 = fo := rSk_1 hs203737 hzq189830 (by decide) hfo0
            have pk203761 : rPh γ el f ≤ 387 * B + 6000 := rm_pk (rM_ge hT203736 ht203757 hf203758).1 (rM_bd hB203739)
            have r203762 := rSk_g hs203737 hne
            have r203763 : 0 < γ 6 (γ 1 q189830) := by rw [hf203760, r203762.1]; exact x189831
            have r203764 : γ 6 fo = γ0 6 fo := r203762.1
            have r203765 : γ 7 fo = 0 := by rw [r203762.2.1]; exact x189832
            have r203767 := RS_valid hT0 hzq189830 hfo0 x189831
            have r203766 := (rSk_o (i := g203097.toInt.toNat) hT0 hs203737 hzq189830 (by rw [hfo0]; exact hne)).2.2.2 (by omega)
            rw [← x203754] at r203766
            have xs203768 : γ 2 (γ 14 q203201) = γ0 2 (γ0 14 q203201) := by rw [r203766.1]; exact r203766.2.1
            refine G_iload 0 dr_cX13_copy_29 rfl ?_
            refine G_aload_n 2 dr_cX13_copy_31 rfl ?_
            have hm203769 : q203201 ∈ P203734 := RS_m hT203736 ht203744 (by decide)
            obtain ⟨q203771, q203772, p203773, p203774, he203770, ht203781, ht203775, ht203776, ht203777, ht203778, ht203779, bp203773, bp203774, r203780, r203782, r203783⟩ := show rk_2 γ q203201 (F203735 q203201) from RS_o hT203736 ht203744
            have hf203784 : γ 1 q203771 = fo := (show γ 1 q203771 = γ 1 q203201 from ht203776).trans hf203745
            have hf203785 : γ 1 q203772 = fo := (show γ 1 q203772 = γ 1 q203201 from ht203778).trans hf203745
            have r203786 : γ 6 (γ 1 q203201) = γ 6 fo := by rw [hf203745]
            have r203787 : γ 7 (γ 1 q203201) = γ 7 fo := by rw [hf203745]
            have r203788 : γ 19 (γ 1 q203201) = γ 19 fo := by rw [hf203745]
            have r203789 := r203780.resolve_left (by omega)
            clear r203780
            have r203790 : γ 2 (γ 14 q203201) = γ 2 q203771 := by rw [ht203781.1]
            refine Gp_get 0 hm203769 he203770 dr_cX13_copy_32 (gk_X12 D I) (Nat.le_of_ble_eq_true rfl) wr_9_215 rfl ?_
            have hm203791 : q203771 ∈ P203734 := RS_m hT203736 ht203775 (by decide)
            obtain ⟨⟨p203793, p203794, q203795, he203792, r203796, r203797, r203798, r203800⟩, r203799⟩ := show rk_3 D I γ el F203735 q203771 from RS_o hT203736 ht203775
            have bp203793 := gB_any p203793
            have bp203794 : gB p203794 0 1000000 := ⟨by omega, by omega⟩
            refine Gw_callV (As := []) (gV_ok D I) (cp_7_ArrayList_size l hl0 D I P203734 F203735 q203771 p203793 q203795 p203794 hm203791 he203792 (gB_w bp203794 (by decide) (by decide))) dr_cX13_copy_35 ⟨wr_9_153, wr_1_18, wr_9_156, by decide, rfl, (Nat.le_of_ble_eq_true rfl), (Nat.le_of_ble_eq_true rfl)⟩ wr_9_154 wr_9_155 hm203791 he203792 rfl (rm_zc pk203761) (rm_zs pk203761) (Nat.le_of_ble_eq_true rfl) (fun r203804 w203805 dc203801 ds203802 hp203803 => ?_) (fun _ _ _ _ _ z => z.elim)
            obtain ⟨rfl, rfl, hdc, hds⟩ := hp203803
            change G _ _ _ _ _ _ _ (.int p203794 :: _) _ _ _
            refine G_widen (cs' := ((rPh γ el f - rPh γ0 el0 f) / 18)) (sl' := (rPh γ el f - rPh γ0 el0 f)) (rm_d0 hdc) (rm_d0 hds) ?_
            refine G_icmp_ge 81 dr_cX13_copy_38 (by decide +kernel) (fun hc203806 => ?_) (fun hc203806 => ?_)
            · have r203807 : p203794.toInt ≤ g203733.toInt := gC_le hc203806
              refine G_aload 1 dr_cX13_copy_81 rfl ?_
              have hm203808 : q203237 ∈ P203734 := RS_m hT203736 ht203740 (by decide)
              obtain ⟨q203810, q203811, p203812, p203813, he203809, ht203819, ht203814, ht203815, ht203816, ht203817, ht203818, bp203812, bp203813⟩ := show rk_202 γ q203237 (F203735 q203237) from RS_o hT203736 ht203740
              have hf203820 : γ 1 q203810 = f := (show γ 1 q203810 = γ 1 q203237 from ht203815).trans hf203741
              have hf203821 : γ 1 q203811 = f := (show γ 1 q203811 = γ 1 q203237 from ht203817).trans hf203741
              have r203822 : γ 6 (γ 1 q203237) = γ 6 f := by rw [hf203741]
              have r203823 : γ 7 (γ 1 q203237) = γ 7 f := by rw [hf203741]
              have r203824 : γ 19 (γ 1 q203237) = γ 19 f := by rw [hf203741]
              have r203825 : γ 2 (γ 14 q203237) = γ 2 q203810 := by rw [ht203819.1]
              refine Gp_get 1 hm203808 he203809 dr_cX13_copy_83 (gk_X12 D I) (Nat.le_of_ble_eq_true rfl) wr_9_220 rfl ?_
              refine G_aload_n 2 dr_cX13_copy_86 rfl ?_
              refine Gp_get 1 hm203769 he203770 dr_cX13_copy_87 (gk_X12 D I) (Nat.le_of_ble_eq_true rfl) wr_9_220 rfl ?_
              have hm203826 : q203811 ∈ P203734 := RS_m hT203736 ht203816 (by decide)
              obtain ⟨p203828, p203829, p203830, p203831, p203832, p203833, p203834, he203827, bp203828, bp203829, bp203832, bp203833, bp203834, r203835, r203836, r203837⟩ := show rkR (F203735 q203811) from RS_o hT203736 ht203816
              have bp203830 := gB_any p203830
              have bp203831 := gB_any p203831
              have r203838 : γ 7 (γ 1 q203811) = γ 7 f := by rw [hf203821]
              have hm203839 : q203772 ∈ P203734 := RS_m hT203736 ht203777 (by decide)
              obtain ⟨p203841, p203842, p203843, p203844, p203845, p203846, p203847, he203840, bp203841, bp203842, bp203845, bp203846, bp203847, r203848, r203849, r203850, r203851, r203852⟩ := show rk_1 γ q203772 (F203735 q203772) from RS_o hT203736 ht203777
              have bp203843 := gB_any p203843
              have bp203844 := gB_any p203844
              have r203853 : γ 7 (γ 1 q203772) = γ 7 fo := by rw [hf203785]
              refine Gw_callV (As := [.ref q203772]) (gV_ok D I) (cp_1722_Row_put l hl0 D I P203734 F203735 q203811 q203772 p203828 p203829 p203830 p203831 p203832 p203833 p203834 p203841 p203842 p203843 p203844 p203845 p203846 p203847 hm203826 hm203839 he203827 he203840 (rn_ty ht203816 ht203777 (by decide)) bp203828 bp203829 bp203832 bp203833 bp203834 bp203841 bp203842 bp203845 bp203846 bp203847) dr_cX13_copy_90 ⟨wr_10_140, wr_1_39, wr_10_143, by decide, rfl, (Nat.le_of_ble_eq_true rfl), (Nat.le_of_ble_eq_true rfl)⟩ wr_10_141 wr_10_142 hm203826 he203827 rfl (rm_zc pk203761) (rm_zs pk203761) (Nat.le_of_ble_eq_true rfl) (fun r203857 w203858 dc203854 ds203855 hp203856 => ?_) (fun _ _ _ _ _ z => z.elim)
              obtain ⟨F203859, rfl, rfl, hfr203861, he203862, he203863, hdc, hds⟩ := hp203856
              have he203864 : F203859 q203201 = .inr (17, [.ref q203771, .ref q203772, .int p203773, .int p203774]) := (hfr203861 q203201 hm203769 (nm_c (rn_oo he203770 he203827 (by decide)) nm_n)).trans he203770
              have he203865 : F203859 q203771 = .inr (4, [.int p203793, .ref q203795, .int p203794]) := (hfr203861 q203771 hm203791 (nm_c (rn_oo he203792 he203827 (by decide)) nm_n)).trans he203792
              have he203866 : F203859 q203237 = .inr (17, [.ref q203810, .ref q203811, .int p203812, .int p203813]) := (hfr203861 q203237 hm203808 (nm_c (rn_oo he203809 he203827 (by decide)) nm_n)).trans he203809
              have hfr203867 : rFr [q203811] P203734 F203735 F203859 := rFr_call (rSub_rf (P := P203734)) (rFr_rf (W := []) (P := P203734) (F := F203735)) hfr203861 (fun b hb hn => ⟨nm_n, (nm_c (fun e => hn (e ▸ List.mem_cons_self)) nm_n)⟩)
              change G _ _ _ _ _ _ _ _ _ _ _
              refine G_widen (cs' := ((rPh γ el f - rPh γ0 el0 f) / 18)) (sl' := (rPh γ el f - rPh γ0 el0 f)) (rm_d0 hdc) (rm_d0 hds) ?_
              have hT203868 : RS D I P203734 F203859 γ el := RS_fr hT203736 hfr203867 ht203816 (by decide) ⟨p203841, p203842, p203843, p203844, p203845, p203846, p203847, he203862, bp203841, bp203842, bp203845, bp203846, bp203847, r203848, r203849, r203850⟩
              have hs203869 := rSk_fr hs203737 hT203868 hfr203867 ht203816 (by decide) (by decide)
              have md203870 : (fI (F203859 q189829) 3).toInt = (fI (F203735 q189829) 3).toInt := by rw [hfr203867 q189829 (RS_m hT203736 ht203757 (by decide)) (nm_c (rn_ty ht203757 ht203816 (by decide)) nm_n)]
              refine G_aload 1 dr_cX13_copy_93 rfl ?_
              refine G_aload_n 2 dr_cX13_copy_95 rfl ?_
              refine Gp_get 2 hm203769 he203864 dr_cX13_copy_96 (gk_X12 D I) (Nat.le_of_ble_eq_true rfl) wr_9_223 rfl ?_
              refine Gp_put 2 hm203808 he203866 dr_cX13_copy_99 (gk_X12 D I) (Nat.le_of_ble_eq_true rfl) wr_9_223 rfl rfl rfl (Nat.le_of_ble_eq_true rfl) (fun F203871 e203872 n203873 => ?_)
              have he203874 : F203871 q203201 = .inr (17, [.ref q203771, .ref q203772, .int p203773, .int p203774]) := (n203873 q203201 (rn_ty ht203744 ht203740 (by decide))).trans he203864
              have he203875 : F203871 q203771 = .inr (4, [.int p203793, .ref q203795, .int p203794]) := (n203873 q203771 (rn_oo he203865 he203866 (by decide))).trans he203865
              have he203876 : F203871 q203811 = .inr (20, [.int p203841, .int p203842, .int p203843, .int p203844, .int p203845, .int p203846, .int p203847]) := (n203873 q203811 (rn_oo he203862 he203866 (by decide))).trans he203862
              have he203877 : F203871 q203772 = .inr (20, [.int p203841, .int p203842, .int p203843, .int p203844, .int p203845, .int p203846, .int p203847]) := (n203873 q203772 (rn_oo he203863 he203866 (by decide))).trans he203863
              have he203878 : F203871 q203237 = .inr (17, [.ref q203810, .ref q203811, .int p203773, .int p203813]) := e203872
              refine G_aload 1 dr_cX13_copy_102 rfl ?_
              refine G_aload_n 2 dr_cX13_copy_104 rfl ?_
              refine Gp_get 3 hm203769 he203874 dr_cX13_copy_105 (gk_X12 D I) (Nat.le_of_ble_eq_true rfl) wr_9_227 rfl ?_
              refine Gp_put 3 hm203808 he203878 dr_cX13_copy_108 (gk_X12 D I) (Nat.le_of_ble_eq_true rfl) wr_9_227 rfl rfl rfl (Nat.le_of_ble_eq_true rfl) (fun F203879 e203880 n203881 => ?_)
              have he203882 : F203879 q203201 = .inr (17, [.ref q203771, .ref q203772, .int p203773, .int p203774]) := (n203881 q203201 (rn_ty ht203744 ht203740 (by decide))).trans he203874
              have he203883 : F203879 q203771 = .inr (4, [.int p203793, .ref q203795, .int p203794]) := (n203881 q203771 (rn_oo he203875 he203878 (by decide))).trans he203875
              have he203884 : F203879 q203811 = .inr (20, [.int p203841, .int p203842, .int p203843, .int p203844, .int p203845, .int p203846, .int p203847]) := (n203881 q203811 (rn_oo he203876 he203878 (by decide))).trans he203876
              have he203885 : F203879 q203772 = .inr (20, [.int p203841, .int p203842, .int p203843, .int p203844, .int p203845, .int p203846, .int p203847]) := (n203881 q203772 (rn_oo he203877 he203878 (by decide))).trans he203877
              have he203886 : F203879 q203237 = .inr (17, [.ref q203810, .ref q203811, .int p203773, .int p203774]) := e203880
              have n203887 : ∀ b, b ≠ q203237 → F203879 b = F203859 b := fun b hb => (n203881 b hb).trans (n203873 b hb)
              have hT203888 : RS D I P203734 F203879 γ el := RS_set hT203868 n203887 ht203740 (by decide) ⟨q203810, q203811, p203773, p203774, he203886, ht203819, ht203814, ht203815, ht203816, ht203817, ht203818, bp203773, bp203774⟩
              have hs203889 := rSk_put hs203869 hT203888 n203887 ht203740 (by decide) (by decide)
              have md203890 : (fI (F203879 q189829) 3).toInt = (fI (F203859 q189829) 3).toInt := by rw [n203887 q189829 (rn_ty ht203757 ht203740 (by decide))]
              have hx203891 : rk_1 γ q203811 (F203879 q203811) := ⟨p203841, p203842, p203843, p203844, p203845, p203846, p203847, he203884, bp203841, bp203842, bp203845, bp203846, bp203847, r203848, r203849, r203850, (Or.inl (r203851.resolve_right (by omega))), (Or.inr (r203852.resolve_left (fun z => absurd (ht203779.2.symm.trans z) (by decide))))⟩
              have hv203892 := St_seal (f := f) hT203888 ht203740 hf203741 he203886 ht203757 hf203758 (by omega) (by omega) (by omega) hx203891
              have hv203892 := And.intro hv203892 (gSea_ph (γ := γ) (el := el) (f := f) (b := q203237) (n := q203811))
              obtain ⟨γ, hg203893⟩ : ∃ z, z = gSea γ q203237 q203811 := ⟨_, rfl⟩
              rw [← hg203893] at hv203892
              have hk203894 := rSk_of hv203892.1
              have r203895 := hv203892.2.1
              have hT203896 := hk203894.1
              have hs203897 := rSk_tr hs203889 hk203894 (by decide) (by decide) (by decide)
              have ht203898 : rKd γ q189829 9 := rSk_k hk203894 ht203757 (by decide) (by decide)
              have hf203899 : γ 1 q189829 = f := rSk_1 hk203894 ht203757 (by decide) hf203758
              have ht203900 : rKd γ q189830 9 := rSk_kf hk203894 ht203759 (by decide) (by rw [hf203760]; exact hne)
              have hf203901 : γ 1 q189830 = fo := rSk_1 hk203894 ht203759 (by decide) hf203760
              have ht203902 : rKd γ q203201 2 := rSk_kf hk203894 ht203744 (by decide) (by rw [hf203745]; exact hne)
              have hf203903 : γ 1 q203201 = fo := rSk_1 hk203894 ht203744 (by decide) hf203745
              have ht203904 : rKd γ q203771 3 := rSk_kf hk203894 ht203775 (by decide) (by rw [hf203784]; exact hne)
              have hf203905 : γ 1 q203771 = fo := rSk_1 hk203894 ht203775 (by decide) hf203784
              have ht203906 : rKd γ q203810 3 := rSk_k hk203894 ht203814 (by decide) (by decide)
              have hf203907 : γ 1 q203810 = f := rSk_1 hk203894 ht203814 (by decide) hf203820
              have kb203908 : rKb γ el q189829 (g203097.toInt : Int).toNat := rKb_t x203751 hk203894 (by decide) (rSk_s hk203894 ht203757 (by decide)).2.1 (fun _ _ => rfl)
              clear bp203773 bp203774 r203782 r203783 bp203812 bp203813 bp203828 bp203829 bp203832 bp203833 bp203834 bp203830 bp203831 bp203841 bp203842 bp203845 bp203846 bp203847 bp203843 bp203844
              clear r203835 r203836 r203837 r203848 r203849 r203850 r203851 r203852
              have r203909 := rSk_g hs203897 hne
              have r203910 : 0 < γ 6 (γ 1 q189830) := by rw [hf203901, r203909.1]; exact x189831
              have r203911 : γ 6 fo = γ0 6 fo := r203909.1
              have r203912 : γ 7 fo = 0 := by rw [r203909.2.1]; exact x189832
              have r203914 := RS_valid hT0 hzq189830 hfo0 x189831
              have r203913 := (rSk_o (i := g203097.toInt.toNat) hT0 hs203897 hzq189830 (by rw [hfo0]; exact hne)).2.2.2 (by omega)
              rw [← x203754] at r203913
              have xs203915 : γ 2 (γ 14 q203201) = γ0 2 (γ0 14 q203201) := by rw [r203913.1]; exact r203913.2.1
              have hB203916 : rBd γ el f B := hv203892.2.2.2 B hB203739
              have hph203917 : rPh γ0 el0 f ≤ rPh γ el f := by rw [r203895]; exact hph203738
              have pk203918 : rPh γ el f ≤ 387 * B + 6000 := rm_pk (rM_ge hT203896 ht203898 hf203899).1 (rM_bd hB203916)
              refine G_widen (cs' := ((rPh γ el f - rPh γ0 el0 f) / 18)) (sl' := (rPh γ el f - rPh γ0 el0 f)) (rm_ec r203895) (rm_es r203895) ?_
              have r203919 := gSea_n hg203893 f
              have kb203920 : rKb γ el q189829 (g203097.toInt + 1 : Int).toNat := rKb_s kb203908 (by omega) (by rw [(rSk_s hk203894 ht203757 (by decide)).2.1, r203743, hg203893]; exact if_pos rfl)
              obtain ⟨z203921, hz203921⟩ : ∃ z : Int32, z = g203097 + Int32.ofInt 1 := ⟨_, rfl⟩
              have ez203921 : z203921.toInt = g203097.toInt + 1 := gI_inc hz203921 (by decide) bg203097' (by decide) (by decide)
              have bz203921 : gB z203921 1 1000000 := ⟨by omega, by omega⟩
              refine G_iinc (L' := [(2, .int z203921), (5, .int g203733), (4, .ref q203237), (3, .ref q203201), (0, .ref q189829), (1, .ref q189830)]) z203921 3 dr_cX13_copy_111 rfl hz203921.symm (Nat.le_of_ble_eq_true rfl) rfl ?_
              refine G_goto 6 dr_cX13_copy_114 (by decide +kernel) ?_
              refine G_lv (L' := [(2, .int z203921), (0, .ref q189829), (1, .ref q189830)]) [0, 4, 5] rfl ?_
              have rs203922 : rsum (fun i => γ0 2 (γ0 14 (el0 (γ0 14 q189830) i))) z203921.toInt.toNat = rsum (fun i => γ0 2 (γ0 14 (el0 (γ0 14 q189830) i))) g203097.toInt.toNat + γ0 2 (γ0 14 (el0 (γ0 14 q189830) g203097.toInt.toNat)) := rsum_1 (by omega) (by omega)
              rw [← x203754] at rs203922
              exact ih6_203111 P203734 F203879 γ el z203921 (gB_w bz203921 (by decide) (by decide)) hT203896 hs203897 hph203917 hB203916 (by omega) (by omega) (by omega) (by omega) (by omega) (by rw [show z203921.toInt.toNat = (g203097.toInt + 1 : Int).toNat by omega]; exact kb203920) (by omega) (by omega) (rm_m1 ez203921 bg203097'.1 x203753 hm6_203111)
            · have r203923 : g203733.toInt < p203794.toInt := gC_nle hc203806
              have bg203733' : gB g203733 0 999999 := ⟨by omega, by omega⟩
              have bp203794' : gB p203794 1 1000000 := ⟨by omega, by omega⟩
              have jl203924 : (g203733.toInt : Int) < γ0 2 (γ0 14 q203201) := by omega
              refine G_aload_n 4 dr_cX13_copy_41 rfl ?_
              have r203925 := (RS_valid hT0 hzq189830 hfo0 x189831).2.2.2.2
              have r203926 : rsum (fun i => γ0 2 (γ0 14 (el0 (γ0 14 q189830) i))) (g203097.toInt + 1).toNat = rsum (fun i => γ0 2 (γ0 14 (el0 (γ0 14 q189830) i))) g203097.toInt.toNat + γ0 2 (γ0 14 (el0 (γ0 14 q189830) g203097.toInt.toNat)) := rsum_1 rfl bg203097'.1
              rw [← x203754] at r203926
              have r203927 : rsum (fun i => γ0 2 (γ0 14 (el0 (γ0 14 q189830) i))) (g203097.toInt + 1).toNat ≤ rsum (fun i => γ0 2 (γ0 14 (el0 (γ0 14 q189830) i))) (γ0 6 fo) := rsum_m _ (rm_tn x203753)
              have r203929 : γ 16 f + 1 ≤ B := by omega
              have rg203930 := rM_ge hT203736 ht203757 hf203758
              have rm203931 := rM_bd hB203739
              have bd203932 := rBd_c hT203736 ht203757 hf203758 hB203739
              have rc203933 := rc_at hT203736 ht203757 hf203758
              obtain ⟨q203940, hl203941⟩ : ∃ z, z = γ 14 q203237 := ⟨_, rfl⟩
              have hl203942 : γ 0 q203940 = 3 ∨ γ 0 q203940 = 103 := by rw [hl203941, ← r203743]; exact (RS_lst hT203736 rc203933.2.1 r203742).1
              refine Gt_row (c := q189829) (f := f) hl0 dr_cX13_copy_42 ⟨wr_10_139, wr_1_15, wr_10_78, by decide, rfl, (Nat.le_of_ble_eq_true rfl), (Nat.le_of_ble_eq_true rfl)⟩ wr_10_76 wr_10_77 hT203736 ht203757 hf203758 (Nat.le_trans bd203932.2.2.1 (Nat.le_trans hBk (by decide))) (rm_cs hph203738 rg203930.2.1 rm203931 (by decide)) (rm_sl hph203738 rg203930.2.1 rm203931 rm_s18) (Nat.le_of_ble_eq_true rfl) (fun P203934 F203935 γ el q203936 dc203937 ds203938 hq203939 => ?_)
              obtain ⟨hk203943, x0203944, x1203945, x22203946, x8203947, h16203948, h18203949, hnu203950, hot203951, h45203952, hf0203953, ⟨hr1203954, hr2203955⟩, hM203956, hBB203957⟩ := hq203939
              have hk203958 := rSk_of hk203943
              have hT203959 := hk203958.1
              have hs203960 := rSk_tr hs203737 hk203958 (by decide) (by decide) (by decide)
              have ht203961 : rKd γ q189829 9 := rSk_k hk203958 ht203757 (by decide) (by decide)
              have hf203962 : γ 1 q189829 = f := rSk_1 hk203958 ht203757 (by decide) hf203758
              have ht203963 : rKd γ q189830 9 := rSk_kf hk203958 ht203759 (by decide) (by rw [hf203760]; exact hne)
              have hf203964 : γ 1 q189830 = fo := rSk_1 hk203958 ht203759 (by decide) hf203760
              have ht203965 : rKd γ q203237 202 := rSk_k hk203958 ht203740 (by decide) (by decide)
              have hf203966 : γ 1 q203237 = f := rSk_1 hk203958 ht203740 (by decide) hf203741
              have ht203967 : rKd γ q203201 2 := rSk_kf hk203958 ht203744 (by decide) (by rw [hf203745]; exact hne)
              have hf203968 : γ 1 q203201 = fo := rSk_1 hk203958 ht203744 (by decide) hf203745
              have ht203969 : rKd γ q203771 3 := rSk_kf hk203958 ht203775 (by decide) (by rw [hf203784]; exact hne)
              have hf203970 : γ 1 q203771 = fo := rSk_1 hk203958 ht203775 (by decide) hf203784
              have r203971 := (rSk_s hk203958 ht203757 (by decide)).2.1
              have r203972 := hot203951 _ (by rw [rc203933.2.1]; decide) (by rw [rc203933.2.1]; decide)
              have r203973 : (g203097.toInt : Int).toNat < γ 2 (γ 14 q189829) := by rw [r203971, r203972.1]; exact r203742
              have r203974 : el (γ 14 q189829) (g203097.toInt : Int).toNat = q203237 := by rw [r203971, r203972.2]; exact r203743
              have kb203975 : rKb γ el q189829 (g203097.toInt : Int).toNat := rKb_t x203751 hk203958 (by decide) r203971 (fun i _ => by rw [r203972.2])
              clear bp203773 bp203774 r203782 r203783 rg203930 rm203931 bd203932 rc203933
              have r203976 := rSk_g hs203960 hne
              have r203977 : 0 < γ 6 (γ 1 q189830) := by rw [hf203964, r203976.1]; exact x189831
              have r203978 : γ 6 fo = γ0 6 fo := r203976.1
              have r203979 : γ 7 fo = 0 := by rw [r203976.2.1]; exact x189832
              have r203981 := RS_valid hT0 hzq189830 hfo0 x189831
              have r203980 := (rSk_o (i := g203097.toInt.toNat) hT0 hs203960 hzq189830 (by rw [hfo0]; exact hne)).2.2.2 (by omega)
              rw [← x203754] at r203980
              have xs203982 : γ 2 (γ 14 q203201) = γ0 2 (γ0 14 q203201) := by rw [r203980.1]; exact r203980.2.1
              have sz203983 := (rSk_s hk203958 ht203740 (by decide)).2.1
              have sz203984 := congrArg (γ 2) sz203983
              have sz203985 := (hot203951 q203940 (by omega) (by omega)).1
              rw [hl203941] at sz203985
              clear hl203942
              have sz203986 := (hot203951 q203771 (rT0 ht203775 (by decide)) (by rw [show _ = 3 from ht203775]; decide)).1
              obtain ⟨nu203987, nu203988, nu203989, nu203990⟩ := hnu203950
              have r203991 := hf0203953.2.2
              have hB203992 : rBd γ el f B := hBB203957 B r203929 hB203739
              have ht203993 : rKd γ q203936 101 := x0203944
              have r203994 : γ 8 q203936 < γ 16 f := rm_x8 x8203947 h16203948 rfl
              have hph203995 : rPh γ0 el0 f ≤ rPh γ el f := rm_ph hph203738 hr2203955
              have pk203996 : rPh γ el f ≤ 387 * B + 6000 := rm_pk (rM_ge hT203959 ht203961 hf203962).1 (rM_bd hB203992)
              have hm203997 : q203936 ∈ P203934 := RS_m hT203959 ht203993 (by decide)
              obtain ⟨p203999, p204000, p204001, p204002, p204003, p204004, p204005, he203998, bp203999, bp204000, bp204003, bp204004, bp204005, r204006, r204007, r204008⟩ := show rkR (F203935 q203936) from RS_o hT203959 ht203993
              have bp204001 := gB_any p204001
              have bp204002 := gB_any p204002
              have r204009 : γ 7 (γ 1 q203936) = γ 7 f := by rw [x1203945]
              have r204010 : p204004.toInt = 0 := by have z := hf0203953.1; rw [he203998] at z; exact z
              have bp204004' : gB p204004 0 0 := ⟨by omega, by omega⟩
              have r204011 : p204005.toInt = 0 := by have z := hf0203953.2.1; rw [he203998] at z; exact z
              have bp204005' : gB p204005 0 0 := ⟨by omega, by omega⟩
              refine G_widen (cs' := ((rPh γ el f - rPh γ0 el0 f) / 18)) (sl' := (rPh γ el f - rPh γ0 el0 f)) (rm_wc hph203738 hr1203954) (rm_ws hph203738 hr2203955) ?_
              refine G_astore (L' := [(6, .ref q203936), (5, .int g203733), (4, .ref q203237), (3, .ref q203201), (2, .int g203097), (0, .ref q189829), (1, .ref q189830)]) dr_cX13_copy_45 (Nat.le_of_ble_eq_true rfl) rfl ?_
              refine G_aload 0 dr_cX13_copy_47 rfl ?_
              refine G_aload_n 3 dr_cX13_copy_49 rfl ?_
              have hm204012 : q203201 ∈ P203934 := RS_m hT203959 ht203967 (by decide)
              obtain ⟨q204014, q204015, p204016, p204017, he204013, ht204024, ht204018, ht204019, ht204020, ht204021, ht204022, bp204016, bp204017, r204023, r204025, r204026⟩ := show rk_2 γ q203201 (F203935 q203201) from RS_o hT203959 ht203967
              have hf204027 : γ 1 q204014 = fo := (show γ 1 q204014 = γ 1 q203201 from ht204019).trans hf203968
              have hf204028 : γ 1 q204015 = fo := (show γ 1 q204015 = γ 1 q203201 from ht204021).trans hf203968
              have r204029 : γ 6 (γ 1 q203201) = γ 6 fo := by rw [hf203968]
              have r204030 : γ 7 (γ 1 q203201) = γ 7 fo := by rw [hf203968]
              have r204031 : γ 19 (γ 1 q203201) = γ 19 fo := by rw [hf203968]
              have r204032 := r204023.resolve_left (by omega)
              clear r204023
              have r204033 : γ 2 (γ 14 q203201) = γ 2 q204014 := by rw [ht204024.1]
              refine Gp_get 0 hm204012 he204013 dr_cX13_copy_50 (gk_X12 D I) (Nat.le_of_ble_eq_true rfl) wr_9_215 rfl ?_
              have jl204034 : g203733.toInt.toNat < γ 2 q204014 := rm_ix bg203733'.1 jl203924 xs203982 (by rw [ht204024.1])
              refine G_iload 1 dr_cX13_copy_53 rfl ?_
              have hm204035 : q204014 ∈ P203934 := RS_m hT203959 ht204018 (by decide)
              obtain ⟨⟨p204037, p204038, q204039, he204036, r204040, r204041, r204042, r204044⟩, r204043⟩ := show rk_3 D I γ el F203935 q204014 from RS_o hT203959 ht204018
              have bp204037 := gB_any p204037
              have bp204038 : gB p204038 0 1000000 := ⟨by omega, by omega⟩
              obtain ⟨r204045, r204046, n204053, f204054, r204047, r204048, r204049, r204050, r204051, r204052⟩ := rLC_n r204042 (by omega)
              have hm204055 : q204039 ∈ P203934 := RS_m hT203959 r204045 (by decide)
              obtain ⟨q204056, hx204057⟩ : ∃ x, x = el q204014 g203733.toInt.toNat := ⟨_, rfl⟩
              have hx204058 : f204054 g203733.toNatClampNeg = some q204056 := (r204051 _ (show g203733.toInt.toNat < γ 2 q204014 by first | assumption | omega)).trans (by rw [hx204057])
              have ht204059 : rKd γ q204056 1 := by rw [hx204057]; exact (r204043 _ (show g203733.toInt.toNat < γ 2 q204014 by first | assumption | omega)).1
              have ht204060 : rFm γ q204056 q204014 := by rw [hx204057]; exact (r204043 _ (show g203733.toInt.toNat < γ 2 q204014 by first | assumption | omega)).2.1
              have hf204061 : γ 1 q204056 = fo := (show γ 1 q204056 = γ 1 q204014 from ht204060).trans hf204027
              refine Gw_callV (As := [.int g203733]) (gV_ok D I) (cp_22_ArrayList_get l hl0 D I P203934 F203935 q204014 q204039 g203733 p204037 p204038 f204054 n204053 q204056 hm204035 hm204055 he204036 r204047 (gB_w bg203733' (by decide) (by decide)) (gB_w bp204038 (by decide) (by decide)) (by omega) (by omega) (by assumption) (by omega)) dr_cX13_copy_55 ⟨wr_10_58, wr_1_18, wr_10_61, by decide, rfl, (Nat.le_of_ble_eq_true rfl), (Nat.le_of_ble_eq_true rfl)⟩ wr_10_59 wr_10_60 hm204035 he204036 rfl (rm_zc pk203996) (rm_zs pk203996) (Nat.le_of_ble_eq_true rfl) (fun r204065 w204066 dc204062 ds204063 hp204064 => ?_) (fun _ _ _ _ _ z => z.elim)
              obtain ⟨rfl, rfl, hdc, hds⟩ := hp204064
              change G _ _ _ _ _ _ _ (.ref q204056 :: _) _ _ _
              refine G_widen (cs' := ((rPh γ el f - rPh γ0 el0 f) / 18)) (sl' := (rPh γ el f - rPh γ0 el0 f)) (rm_d0 hdc) (rm_d0 hds) ?_
              have hm204067 : q204056 ∈ P203934 := RS_m hT203959 ht204059 (by decide)
              obtain ⟨p204069, p204070, p204071, p204072, p204073, p204074, p204075, he204068, bp204069, bp204070, bp204073, bp204074, bp204075, r204076, r204077, r204078, r204079, r204080⟩ := show rk_1 γ q204056 (F203935 q204056) from RS_o hT203959 ht204059
              have bp204071 := gB_any p204071
              have bp204072 := gB_any p204072
              have r204081 : γ 7 (γ 1 q204056) = γ 7 fo := by rw [hf204061]
              refine Gp_cast hm204067 he204068 rfl dr_cX13_copy_58 wr_10_79 (gr_cast 1 rfl) ?_
              refine Gw_callV (As := [.ref q204056]) (gV_ok D I) (cp_1722_Row_put l hl0 D I P203934 F203935 q203936 q204056 p203999 p204000 p204001 p204002 p204003 p204004 p204005 p204069 p204070 p204071 p204072 p204073 p204074 p204075 hm203997 hm204067 he203998 he204068 (rn_ty ht203993 ht204059 (by decide)) bp203999 bp204000 bp204003 (gB_w bp204004' (by decide) (by decide)) (gB_w bp204005' (by decide) (by decide)) bp204069 bp204070 bp204073 bp204074 bp204075) dr_cX13_copy_61 ⟨wr_10_140, wr_1_39, wr_10_143, by decide, rfl, (Nat.le_of_ble_eq_true rfl), (Nat.le_of_ble_eq_true rfl)⟩ wr_10_141 wr_10_142 hm203997 he203998 rfl (rm_zc pk203996) (rm_zs pk203996) (Nat.le_of_ble_eq_true rfl) (fun r204085 w204086 dc204082 ds204083 hp204084 => ?_) (fun _ _ _ _ _ z => z.elim)
              obtain ⟨F204087, rfl, rfl, hfr204089, he204090, he204091, hdc, hds⟩ := hp204084
              have he204092 : F204087 q203201 = .inr (17, [.ref q204014, .ref q204015, .int p204016, .int p204017]) := (hfr204089 q203201 hm204012 (nm_c (rn_oo he204013 he203998 (by decide)) nm_n)).trans he204013
              have he204093 : F204087 q204014 = .inr (4, [.int p204037, .ref q204039, .int p204038]) := (hfr204089 q204014 hm204035 (nm_c (rn_oo he204036 he203998 (by decide)) nm_n)).trans he204036
              have he204094 : F204087 q204039 = .inl (I (.object "java/lang/Object"), n204053, .inr (.inr (.inr (.inr f204054)))) := (hfr204089 q204039 hm204055 (nm_c (rn_ao r204047 he203998) nm_n)).trans r204047
              have hfr204095 : rFr [q203936] P203934 F203935 F204087 := rFr_call (rSub_rf (P := P203934)) (rFr_rf (W := []) (P := P203934) (F := F203935)) hfr204089 (fun b hb hn => ⟨nm_n, (nm_c (fun e => hn (e ▸ List.mem_cons_self)) nm_n)⟩)
              change G _ _ _ _ _ _ _ _ _ _ _
              refine G_widen (cs' := ((rPh γ el f - rPh γ0 el0 f) / 18)) (sl' := (rPh γ el f - rPh γ0 el0 f)) (rm_d0 hdc) (rm_d0 hds) ?_
              have hT204096 : RS D I P203934 F204087 γ el := RS_fr hT203959 hfr204095 ht203993 (by decide) ⟨p204069, p204070, p204071, p204072, p204073, p204074, p204075, he204090, bp204069, bp204070, bp204073, bp204074, bp204075, r204076, r204077, r204078⟩
              have hs204097 := rSk_fr hs203960 hT204096 hfr204095 ht203993 (by decide) (by decide)
              have md204098 : (fI (F204087 q189829) 3).toInt = (fI (F203935 q189829) 3).toInt := by rw [hfr204095 q189829 (RS_m hT203959 ht203961 (by decide)) (nm_c (rn_ty ht203961 ht203993 (by decide)) nm_n)]
              refine G_aload 2 dr_cX13_copy_64 rfl ?_
              have hm204099 : q203237 ∈ P203934 := RS_m hT204096 ht203965 (by decide)
              obtain ⟨q204101, q204102, p204103, p204104, he204100, ht204110, ht204105, ht204106, ht204107, ht204108, ht204109, bp204103, bp204104⟩ := show rk_202 γ q203237 (F204087 q203237) from RS_o hT204096 ht203965
              have hf204111 : γ 1 q204101 = f := (show γ 1 q204101 = γ 1 q203237 from ht204106).trans hf203966
              have hf204112 : γ 1 q204102 = f := (show γ 1 q204102 = γ 1 q203237 from ht204108).trans hf203966
              have r204113 : γ 6 (γ 1 q203237) = γ 6 f := by rw [hf203966]
              have r204114 : γ 7 (γ 1 q203237) = γ 7 f := by rw [hf203966]
              have r204115 : γ 19 (γ 1 q203237) = γ 19 f := by rw [hf203966]
              have r204116 : γ 2 (γ 14 q203237) = γ 2 q204101 := by rw [ht204110.1]
              refine Gp_get 0 hm204099 he204100 dr_cX13_copy_66 (gk_X12 D I) (Nat.le_of_ble_eq_true rfl) wr_9_215 rfl ?_
              refine G_aload 0 dr_cX13_copy_69 rfl ?_
              have rg204117 := rM_ge hT204096 ht203961 hf203962
              have rm204118 := rM_bd hB203992
              have bd204119 := rBd_c hT204096 ht203961 hf203962 hB203992
              have rc204120 := rc_at hT204096 ht203961 hf203962
              have r204122 : γ 14 (el (γ 14 q189829) (g203097.toInt : Int).toNat) = q204101 := by rw [r203974]; exact ht204110.1
              have r204123 := rg204117.2.2 _ r203973
              rw [r204122] at r204123
              have r204124 := bd204119.2.2.2 _ r203973
              rw [r204122] at r204124
              have r204125 : γ 7 (γ 1 q203936) = γ 7 f := by rw [x1203945]
              have hx204126 : rk_1 γ q203936 (F204087 q203936) := ⟨p204069, p204070, p204071, p204072, p204073, p204074, p204075, he204090, bp204069, bp204070, bp204073, bp204074, bp204075, r204076, r204077, r204078, (Or.inl (r204079.resolve_right (by omega))), (Or.inl x22203946)⟩
              refine Gt_add (c := q189829) (f := f) hl0 dr_cX13_copy_71 ⟨wr_9_239, wr_1_18, wr_10_2, by decide, rfl, (Nat.le_of_ble_eq_true rfl), (Nat.le_of_ble_eq_true rfl)⟩ wr_10_0 wr_10_1 hT204096 ht204105 hf204111 ht203993 x1203945 x22203946 r203994 (by omega) ht203961 hf203962 r203973 r204122 hx204126 (Nat.le_trans r204124 (Nat.le_trans hBk (by decide))) (rm_cs hph203995 r204123 rm204118 (by decide)) (rm_sl hph203995 r204123 rm204118 rm_s11) (Nat.le_of_ble_eq_true rfl) (fun P204127 F204121 γ el dc204128 ds204129 hq204130 => ?_)
              obtain ⟨hk204131, x0204132, h2204133, hel204134, hot204135, h16204136, h18204137, hnu204138, hFx204139, hr204140, hM204141, hBB204142⟩ := hq204130
              have hk204143 := rSk_of hk204131
              have r204144 : (fI (F204121 q189829) 3).toInt = (fI (F204087 q189829) 3).toInt := by rw [rSk_F hk204143 ht203961 (by decide) (by decide)]
              have hT204145 := hk204143.1
              have hs204146 := rSk_tr hs204097 hk204143 (by decide) (by decide) (by decide)
              have ht204147 : rKd γ q189829 9 := rSk_k hk204143 ht203961 (by decide) (by decide)
              have hf204148 : γ 1 q189829 = f := rSk_1 hk204143 ht203961 (by decide) hf203962
              have ht204149 : rKd γ q189830 9 := rSk_kf hk204143 ht203963 (by decide) (by rw [hf203964]; exact hne)
              have hf204150 : γ 1 q189830 = fo := rSk_1 hk204143 ht203963 (by decide) hf203964
              have ht204151 : rKd γ q203237 202 := rSk_k hk204143 ht203965 (by decide) (by decide)
              have hf204152 : γ 1 q203237 = f := rSk_1 hk204143 ht203965 (by decide) hf203966
              have ht204153 : rKd γ q203201 2 := rSk_kf hk204143 ht203967 (by decide) (by rw [hf203968]; exact hne)
              have hf204154 : γ 1 q203201 = fo := rSk_1 hk204143 ht203967 (by decide) hf203968
              have ht204155 : rKd γ q203771 3 := rSk_kf hk204143 ht203969 (by decide) (by rw [hf203970]; exact hne)
              have hf204156 : γ 1 q203771 = fo := rSk_1 hk204143 ht203969 (by decide) hf203970
              have ht204157 : rKd γ q204014 3 := rSk_kf hk204143 ht204018 (by decide) (by rw [hf204027]; exact hne)
              have hf204158 : γ 1 q204014 = fo := rSk_1 hk204143 ht204018 (by decide) hf204027
              have ht204159 : rKd γ q204101 3 := rSk_k hk204143 ht204105 (by decide) (by decide)
              have hf204160 : γ 1 q204101 = f := rSk_1 hk204143 ht204105 (by decide) hf204111
              have r204161 := (rSk_s hk204143 ht203961 (by decide)).2.1
              have r204162 := hot204135 _ (by rw [rc204120.2.1]; decide) (fun q => by rw [q, show _ = 3 from ht204105] at rc204120; exact absurd rc204120.2.1 (by decide))
              have r204163 : (g203097.toInt : Int).toNat < γ 2 (γ 14 q189829) := by rw [r204161, r204162.1]; exact r203973
              have r204164 : el (γ 14 q189829) (g203097.toInt : Int).toNat = q203237 := by rw [r204161, r204162.2]; exact r203974
              have kb204165 : rKb γ el q189829 (g203097.toInt : Int).toNat := rKb_t kb203975 hk204143 (by decide) r204161 (fun i _ => by rw [r204162.2])
              clear bp203999 bp204000 bp204003 bp204004 bp204005 bp204001 bp204002 bp204016 bp204017 r204025 r204026 bp204069 bp204070 bp204073 bp204074 bp204075 bp204071 bp204072 bp204103 bp204104 rg204117 rm204118 bd204119 rc204120 r204123 r204124
              clear r204006 r204007 r204008 r204076 r204077 r204078 r204079 r204080
              have r204166 := rSk_g hs204146 hne
              have r204167 : 0 < γ 6 (γ 1 q189830) := by rw [hf204150, r204166.1]; exact x189831
              have r204168 : γ 6 fo = γ0 6 fo := r204166.1
              have r204169 : γ 7 fo = 0 := by rw [r204166.2.1]; exact x189832
              have r204171 := RS_valid hT0 hzq189830 hfo0 x189831
              have r204170 := (rSk_o (i := g203097.toInt.toNat) hT0 hs204146 hzq189830 (by rw [hfo0]; exact hne)).2.2.2 (by omega)
              rw [← x203754] at r204170
              have xs204172 : γ 2 (γ 14 q203201) = γ0 2 (γ0 14 q203201) := by rw [r204170.1]; exact r204170.2.1
              first | have sz204173 := (hot204135 q203771 (rT0 ht203969 (by decide)) (by assumption)).1 | skip
              first | have sz204174 := (hot204135 q204014 (rT0 ht204018 (by decide)) (by assumption)).1 | skip
              obtain ⟨nu204175, nu204176, nu204177, nu204178⟩ := hnu204138
              have ht204179 : rKd γ q203936 1 := x0204132
              have hB204180 : rBd γ el f B := hBB204142 B hB203992
              have hph204181 : rPh γ0 el0 f ≤ rPh γ el f := rm_ph hph203995 hr204140.2
              have pk204182 : rPh γ el f ≤ 387 * B + 6000 := rm_pk (rM_ge hT204145 ht204147 hf204148).1 (rM_bd hB204180)
              refine G_widen (cs' := ((rPh γ el f - rPh γ0 el0 f) / 18)) (sl' := (rPh γ el f - rPh γ0 el0 f)) (rm_wc hph203995 hr204140.1) (rm_ws hph203995 hr204140.2) ?_
              refine G_pop dr_cX13_copy_74 rfl ?_
              obtain ⟨z204183, hz204183⟩ : ∃ z : Int32, z = g203733 + Int32.ofInt 1 := ⟨_, rfl⟩
              have ez204183 : z204183.toInt = g203733.toInt + 1 := gI_inc hz204183 (by decide) bg203733' (by decide) (by decide)
              have bz204183 : gB z204183 1 1000000 := ⟨by omega, by omega⟩
              refine G_iinc (L' := [(5, .int z204183), (6, .ref q203936), (4, .ref q203237), (3, .ref q203201), (2, .int g203097), (0, .ref q189829), (1, .ref q189830)]) z204183 1 dr_cX13_copy_75 rfl hz204183.symm (Nat.le_of_ble_eq_true rfl) rfl ?_
              refine G_goto 29 dr_cX13_copy_78 (by decide +kernel) ?_
              refine G_lv (L' := [(5, .int z204183), (4, .ref q203237), (3, .ref q203201), (2, .int g203097), (0, .ref q189829), (1, .ref q189830)]) [0, 2, 3, 4, 5, 6] rfl ?_
              exact ih29_203755 P204127 F204121 γ el z204183 (gB_w bz204183 (by decide) (by decide)) hT204145 hs204146 hph204181 hB204180 ht204151 hf204152 r204163 r204164 ht204153 hf204154 (by omega) (by omega) (by omega) (by omega) (by omega) kb204165 (by omega) (by omega) x203754 (by omega) (rm_m1 ez204183 bg203733'.1 jl203924 hm29_203755)
        exact hlp29_203755 ((γ0 2 (γ0 14 q203201) - (0 : Int).toNat) + 1) P203235 F203236 γ el 0 (gB_w (gBl (show Int32.toInt 0 = 0 by decide)) (by decide) (by decide)) hT203262 hs203263 hph203288 hB203278 ht203284 b1203243 r203286 r203287 ht203268 hf203269 (by have qa0 : Int32.toInt 0 = 0 := (by decide); omega) (by have qa0 : Int32.toInt 0 = 0 := (by decide); omega) (by have qa0 : Int32.toInt 0 = 0 := (by decide); omega) (by have qa0 : Int32.toInt 0 = 0 := (by decide); omega) (by have qa0 : Int32.toInt 0 = 0 := (by decide); omega) kb203270 (by have qa0 : Int32.toInt 0 = 0 := (by decide); omega) (by have qa0 : Int32.toInt 0 = 0 := (by decide); omega) hx0203230 (by have qa0 : Int32.toInt 0 = 0 := (by decide); omega) (Nat.lt_succ_self _)
  exact hlp6_203111 ((γ0 6 fo - (0 : Int).toNat) + 1) P189827 F189843 γ el 0 (gB_w (gBl (show Int32.toInt 0 = 0 by decide)) (by decide) (by decide)) hT189859 hs189860 hph189870 hB189869 (by have qa0 : Int32.toInt 0 = 0 := (by decide); omega) (by have qa0 : Int32.toInt 0 = 0 := (by decide); omega) (by have qa0 : Int32.toInt 0 = 0 := (by decide); omega) (by have qa0 : Int32.toInt 0 = 0 := (by decide); omega) (by have qa0 : Int32.toInt 0 = 0 := (by decide); omega) rKb_0 (by show γ 16 f ≤ 0; omega) (by have qa0 : Int32.toInt 0 = 0 := (by decide); omega) (Nat.lt_succ_self _)
