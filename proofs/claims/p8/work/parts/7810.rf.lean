theorem dr_cX17_load_0 : decode cX17_load 0 = .ok (.aload_n 0, 1) := by decide +kernel
theorem dr_cX17_load_1 : decode cX17_load 1 = .ok (.getfield 231, 3) := by decide +kernel
theorem wr_7_88 : (Jvm.Cond.fieldLink "SpillForgeModel" (231 : Nat) "SpillForgeModel" "temporaries" "I") ∈ gw := gw_7 88 rfl rfl
theorem dr_cX17_load_4 : decode cX17_load 4 = .ok (.sipush 2000, 3) := by decide +kernel
theorem dr_cX17_load_7 : decode cX17_load 7 = .ok (.if_icmp .ne 5, 3) := by decide +kernel
theorem dr_cX17_load_12 : decode cX17_load 12 = .ok (.aload_n 1, 1) := by decide +kernel
theorem dr_cX17_load_13 : decode cX17_load 13 = .ok (.invokevirtual 177, 3) := by decide +kernel
theorem wr_10_206 : (Jvm.Cond.methodLink "SpillForgeModel" (177 : Nat) ({ cls := "SpillForgeModel$Code", name := "row", desc := "()LSpillForgeModel$Row;" } : Jvm.MethodName)) ∈ gw := gw_10 206 rfl rfl
theorem wr_10_82 : (Jvm.Cond.code ({ cls := "SpillForgeModel$Code", name := "row", desc := "()LSpillForgeModel$Row;" } : Jvm.MethodName) prog_16_method_4_code (2 : Nat) (Option.some (Jvm.ClassFile.FieldType.object "SpillForgeModel$Row"))) ∈ gw := gw_10 82 rfl rfl
theorem wr_10_80 : (Jvm.Cond.instanceMethod ({ cls := "SpillForgeModel$Code", name := "row", desc := "()LSpillForgeModel$Row;" } : Jvm.MethodName)) ∈ gw := gw_10 80 rfl rfl
theorem wr_10_81 : (Jvm.Cond.selects "SpillForgeModel$Code" ({ cls := "SpillForgeModel$Code", name := "row", desc := "()LSpillForgeModel$Row;" } : Jvm.MethodName) ({ cls := "SpillForgeModel$Code", name := "row", desc := "()LSpillForgeModel$Row;" } : Jvm.MethodName)) ∈ gw := gw_10 81 rfl rfl
theorem dr_cX17_load_16 : decode cX17_load 16 = .ok (.astore 5, 2) := by decide +kernel
theorem dr_cX17_load_18 : decode cX17_load 18 = .ok (.aload 5, 2) := by decide +kernel
theorem dr_cX17_load_20 : decode cX17_load 20 = .ok (.bipush 21, 2) := by decide +kernel
theorem dr_cX17_load_22 : decode cX17_load 22 = .ok (.putfield 39, 3) := by decide +kernel
theorem dr_cX17_load_25 : decode cX17_load 25 = .ok (.aload 5, 2) := by decide +kernel
theorem dr_cX17_load_27 : decode cX17_load 27 = .ok (.aload_n 0, 1) := by decide +kernel
theorem dr_cX17_load_28 : decode cX17_load 28 = .ok (.getfield 231, 3) := by decide +kernel
theorem dr_cX17_load_31 : decode cX17_load 31 = .ok (.putfield 52, 3) := by decide +kernel
theorem dr_cX17_load_34 : decode cX17_load 34 = .ok (.aload 5, 2) := by decide +kernel
theorem dr_cX17_load_36 : decode cX17_load 36 = .ok (.iload 4, 2) := by decide +kernel
theorem dr_cX17_load_38 : decode cX17_load 38 = .ok (.putfield 45, 3) := by decide +kernel
theorem dr_cX17_load_41 : decode cX17_load 41 = .ok (.aload_n 2, 1) := by decide +kernel
theorem dr_cX17_load_42 : decode cX17_load 42 = .ok (.getfield 117, 3) := by decide +kernel
theorem dr_cX17_load_45 : decode cX17_load 45 = .ok (.iload_n 3, 1) := by decide +kernel
theorem dr_cX17_load_46 : decode cX17_load 46 = .ok (.aload 5, 2) := by decide +kernel
theorem dr_cX17_load_48 : decode cX17_load 48 = .ok (.invokevirtual 181, 3) := by decide +kernel
theorem wr_10_207 : (Jvm.Cond.methodLink "SpillForgeModel" (181 : Nat) ({ cls := "java/util/ArrayList", name := "add", desc := "(ILjava/lang/Object;)V" } : Jvm.MethodName)) ∈ gw := gw_10 207 rfl rfl
theorem wr_10_210 : (Jvm.Cond.code ({ cls := "java/util/ArrayList", name := "add", desc := "(ILjava/lang/Object;)V" } : Jvm.MethodName) prog_43_method_26_code (5 : Nat) (Option.none : Option Jvm.ClassFile.FieldType)) ∈ gw := gw_10 210 rfl rfl
theorem wr_10_208 : (Jvm.Cond.instanceMethod ({ cls := "java/util/ArrayList", name := "add", desc := "(ILjava/lang/Object;)V" } : Jvm.MethodName)) ∈ gw := gw_10 208 rfl rfl
theorem wr_10_209 : (Jvm.Cond.selects "java/util/ArrayList" ({ cls := "java/util/ArrayList", name := "add", desc := "(ILjava/lang/Object;)V" } : Jvm.MethodName) ({ cls := "java/util/ArrayList", name := "add", desc := "(ILjava/lang/Object;)V" } : Jvm.MethodName)) ∈ gw := gw_10 209 rfl rfl
theorem dr_cX17_load_51 : decode cX17_load 51 = .ok (.aload_n 0, 1) := by decide +kernel
theorem dr_cX17_load_52 : decode cX17_load 52 = .ok (.dup, 1) := by decide +kernel
theorem dr_cX17_load_53 : decode cX17_load 53 = .ok (.getfield 231, 3) := by decide +kernel
theorem dr_cX17_load_56 : decode cX17_load 56 = .ok (.iconst 1, 1) := by decide +kernel
theorem dr_cX17_load_57 : decode cX17_load 57 = .ok (.iadd, 1) := by decide +kernel
theorem dr_cX17_load_58 : decode cX17_load 58 = .ok (.putfield 231, 3) := by decide +kernel
theorem dr_cX17_load_61 : decode cX17_load 61 = .ok (.aload 5, 2) := by decide +kernel
theorem dr_cX17_load_63 : decode cX17_load 63 = .ok (.getfield 52, 3) := by decide +kernel
theorem dr_cX17_load_66 : decode cX17_load 66 = .ok (.ireturn, 1) := by decide +kernel
theorem dr_cX17_load_10 : decode cX17_load 10 = .ok (.iconst (-1), 1) := by decide +kernel
theorem dr_cX17_load_11 : decode cX17_load 11 = .ok (.ireturn, 1) := by decide +kernel
theorem dr_cX13_copy_0 : decode cX13_copy 0 = .ok (.aload_n 0, 1) := by decide +kernel
theorem dr_cX13_copy_1 : decode cX13_copy 1 = .ok (.invokevirtual 73, 3) := by decide +kernel
theorem wr_10_136 : (Jvm.Cond.methodLink "SpillForgeModel$Code" (73 : Nat) ({ cls := "SpillForgeModel$Code", name := "begin", desc := "()V" } : Jvm.MethodName)) ∈ gw := gw_10 136 rfl rfl
theorem wr_9_88 : (Jvm.Cond.code ({ cls := "SpillForgeModel$Code", name := "begin", desc := "()V" } : Jvm.MethodName) prog_16_method_2_code (1 : Nat) (Option.none : Option Jvm.ClassFile.FieldType)) ∈ gw := gw_9 88 rfl rfl
theorem wr_9_86 : (Jvm.Cond.instanceMethod ({ cls := "SpillForgeModel$Code", name := "begin", desc := "()V" } : Jvm.MethodName)) ∈ gw := gw_9 86 rfl rfl
theorem wr_9_87 : (Jvm.Cond.selects "SpillForgeModel$Code" ({ cls := "SpillForgeModel$Code", name := "begin", desc := "()V" } : Jvm.MethodName) ({ cls := "SpillForgeModel$Code", name := "begin", desc := "()V" } : Jvm.MethodName)) ∈ gw := gw_9 87 rfl rfl
theorem dr_cX13_copy_4 : decode cX13_copy 4 = .ok (.iconst 0, 1) := by decide +kernel
theorem dr_cX13_copy_5 : decode cX13_copy 5 = .ok (.istore_n 2, 1) := by decide +kernel
theorem dr_cX13_copy_6 : decode cX13_copy 6 = .ok (.iload_n 2, 1) := by decide +kernel
theorem dr_cX13_copy_7 : decode cX13_copy 7 = .ok (.aload_n 1, 1) := by decide +kernel
theorem dr_cX13_copy_8 : decode cX13_copy 8 = .ok (.invokevirtual 76, 3) := by decide +kernel
theorem wr_10_137 : (Jvm.Cond.methodLink "SpillForgeModel$Code" (76 : Nat) ({ cls := "SpillForgeModel$Code", name := "size", desc := "()I" } : Jvm.MethodName)) ∈ gw := gw_10 137 rfl rfl
theorem dr_cX13_copy_11 : decode cX13_copy 11 = .ok (.if_icmp .ge 106, 3) := by decide +kernel
theorem dr_cX13_copy_117 : decode cX13_copy 117 = .ok (.return_, 1) := by decide +kernel
theorem dr_cX13_copy_14 : decode cX13_copy 14 = .ok (.aload_n 1, 1) := by decide +kernel
theorem dr_cX13_copy_15 : decode cX13_copy 15 = .ok (.iload_n 2, 1) := by decide +kernel
theorem dr_cX13_copy_16 : decode cX13_copy 16 = .ok (.invokevirtual 67, 3) := by decide +kernel
theorem dr_cX13_copy_19 : decode cX13_copy 19 = .ok (.astore_n 3, 1) := by decide +kernel
theorem dr_cX13_copy_20 : decode cX13_copy 20 = .ok (.aload_n 0, 1) := by decide +kernel
theorem dr_cX13_copy_21 : decode cX13_copy 21 = .ok (.invokevirtual 77, 3) := by decide +kernel
theorem wr_10_142 : (Jvm.Cond.methodLink "SpillForgeModel$Code" (77 : Nat) ({ cls := "SpillForgeModel$Code", name := "block", desc := "()LSpillForgeModel$Block;" } : Jvm.MethodName)) ∈ gw := gw_10 142 rfl rfl
theorem wr_9_156 : (Jvm.Cond.code ({ cls := "SpillForgeModel$Code", name := "block", desc := "()LSpillForgeModel$Block;" } : Jvm.MethodName) prog_16_method_3_code (2 : Nat) (Option.some (Jvm.ClassFile.FieldType.object "SpillForgeModel$Block"))) ∈ gw := gw_9 156 rfl rfl
theorem wr_9_154 : (Jvm.Cond.instanceMethod ({ cls := "SpillForgeModel$Code", name := "block", desc := "()LSpillForgeModel$Block;" } : Jvm.MethodName)) ∈ gw := gw_9 154 rfl rfl
theorem wr_9_155 : (Jvm.Cond.selects "SpillForgeModel$Code" ({ cls := "SpillForgeModel$Code", name := "block", desc := "()LSpillForgeModel$Block;" } : Jvm.MethodName) ({ cls := "SpillForgeModel$Code", name := "block", desc := "()LSpillForgeModel$Block;" } : Jvm.MethodName)) ∈ gw := gw_9 155 rfl rfl
theorem dr_cX13_copy_24 : decode cX13_copy 24 = .ok (.astore 4, 2) := by decide +kernel
theorem dr_cX13_copy_26 : decode cX13_copy 26 = .ok (.iconst 0, 1) := by decide +kernel
theorem dr_cX13_copy_27 : decode cX13_copy 27 = .ok (.istore 5, 2) := by decide +kernel
theorem dr_cX13_copy_29 : decode cX13_copy 29 = .ok (.iload 5, 2) := by decide +kernel
theorem dr_cX13_copy_31 : decode cX13_copy 31 = .ok (.aload_n 3, 1) := by decide +kernel
theorem dr_cX13_copy_32 : decode cX13_copy 32 = .ok (.getfield 41, 3) := by decide +kernel
theorem dr_cX13_copy_35 : decode cX13_copy 35 = .ok (.invokevirtual 26, 3) := by decide +kernel
theorem dr_cX13_copy_38 : decode cX13_copy 38 = .ok (.if_icmp .ge 43, 3) := by decide +kernel
theorem dr_cX13_copy_81 : decode cX13_copy 81 = .ok (.aload 4, 2) := by decide +kernel
theorem dr_cX13_copy_83 : decode cX13_copy 83 = .ok (.getfield 89, 3) := by decide +kernel
theorem wr_9_224 : (Jvm.Cond.fieldLink "SpillForgeModel$Code" (89 : Nat) "SpillForgeModel$Block" "end" "LSpillForgeModel$Row;") ∈ gw := gw_9 224 rfl rfl
theorem dr_cX13_copy_86 : decode cX13_copy 86 = .ok (.aload_n 3, 1) := by decide +kernel
theorem dr_cX13_copy_87 : decode cX13_copy 87 = .ok (.getfield 89, 3) := by decide +kernel
theorem dr_cX13_copy_90 : decode cX13_copy 90 = .ok (.invokevirtual 85, 3) := by decide +kernel
theorem wr_10_144 : (Jvm.Cond.methodLink "SpillForgeModel$Code" (85 : Nat) ({ cls := "SpillForgeModel$Row", name := "put", desc := "(LSpillForgeModel$Row;)V" } : Jvm.MethodName)) ∈ gw := gw_10 144 rfl rfl
theorem wr_10_147 : (Jvm.Cond.code ({ cls := "SpillForgeModel$Row", name := "put", desc := "(LSpillForgeModel$Row;)V" } : Jvm.MethodName) prog_18_method_6_code (2 : Nat) (Option.none : Option Jvm.ClassFile.FieldType)) ∈ gw := gw_10 147 rfl rfl
theorem wr_10_145 : (Jvm.Cond.instanceMethod ({ cls := "SpillForgeModel$Row", name := "put", desc := "(LSpillForgeModel$Row;)V" } : Jvm.MethodName)) ∈ gw := gw_10 145 rfl rfl
theorem wr_10_146 : (Jvm.Cond.selects "SpillForgeModel$Row" ({ cls := "SpillForgeModel$Row", name := "put", desc := "(LSpillForgeModel$Row;)V" } : Jvm.MethodName) ({ cls := "SpillForgeModel$Row", name := "put", desc := "(LSpillForgeModel$Row;)V" } : Jvm.MethodName)) ∈ gw := gw_10 146 rfl rfl
theorem dr_cX13_copy_93 : decode cX13_copy 93 = .ok (.aload 4, 2) := by decide +kernel
theorem dr_cX13_copy_95 : decode cX13_copy 95 = .ok (.aload_n 3, 1) := by decide +kernel
theorem dr_cX13_copy_96 : decode cX13_copy 96 = .ok (.getfield 93, 3) := by decide +kernel
theorem wr_9_227 : (Jvm.Cond.fieldLink "SpillForgeModel$Code" (93 : Nat) "SpillForgeModel$Block" "first" "I") ∈ gw := gw_9 227 rfl rfl
theorem dr_cX13_copy_99 : decode cX13_copy 99 = .ok (.putfield 93, 3) := by decide +kernel
theorem dr_cX13_copy_102 : decode cX13_copy 102 = .ok (.aload 4, 2) := by decide +kernel
theorem dr_cX13_copy_104 : decode cX13_copy 104 = .ok (.aload_n 3, 1) := by decide +kernel
theorem dr_cX13_copy_105 : decode cX13_copy 105 = .ok (.getfield 96, 3) := by decide +kernel
theorem wr_9_231 : (Jvm.Cond.fieldLink "SpillForgeModel$Code" (96 : Nat) "SpillForgeModel$Block" "second" "I") ∈ gw := gw_9 231 rfl rfl
theorem dr_cX13_copy_108 : decode cX13_copy 108 = .ok (.putfield 96, 3) := by decide +kernel
theorem dr_cX13_copy_111 : decode cX13_copy 111 = .ok (.iinc 2 1, 3) := by decide +kernel
theorem dr_cX13_copy_114 : decode cX13_copy 114 = .ok (.goto (-108), 3) := by decide +kernel
theorem dr_cX13_copy_41 : decode cX13_copy 41 = .ok (.aload_n 0, 1) := by decide +kernel
theorem dr_cX13_copy_42 : decode cX13_copy 42 = .ok (.invokevirtual 81, 3) := by decide +kernel
theorem wr_10_143 : (Jvm.Cond.methodLink "SpillForgeModel$Code" (81 : Nat) ({ cls := "SpillForgeModel$Code", name := "row", desc := "()LSpillForgeModel$Row;" } : Jvm.MethodName)) ∈ gw := gw_10 143 rfl rfl
theorem dr_cX13_copy_45 : decode cX13_copy 45 = .ok (.astore 6, 2) := by decide +kernel
theorem dr_cX13_copy_47 : decode cX13_copy 47 = .ok (.aload 6, 2) := by decide +kernel
theorem dr_cX13_copy_49 : decode cX13_copy 49 = .ok (.aload_n 3, 1) := by decide +kernel
theorem dr_cX13_copy_50 : decode cX13_copy 50 = .ok (.getfield 41, 3) := by decide +kernel
theorem dr_cX13_copy_53 : decode cX13_copy 53 = .ok (.iload 5, 2) := by decide +kernel
theorem dr_cX13_copy_55 : decode cX13_copy 55 = .ok (.invokevirtual 37, 3) := by decide +kernel
theorem dr_cX13_copy_58 : decode cX13_copy 58 = .ok (.checkcast 45, 3) := by decide +kernel
theorem dr_cX13_copy_61 : decode cX13_copy 61 = .ok (.invokevirtual 85, 3) := by decide +kernel
theorem dr_cX13_copy_64 : decode cX13_copy 64 = .ok (.aload 4, 2) := by decide +kernel
theorem dr_cX13_copy_66 : decode cX13_copy 66 = .ok (.getfield 41, 3) := by decide +kernel
theorem dr_cX13_copy_69 : decode cX13_copy 69 = .ok (.aload 6, 2) := by decide +kernel
theorem dr_cX13_copy_71 : decode cX13_copy 71 = .ok (.invokevirtual 33, 3) := by decide +kernel
theorem dr_cX13_copy_74 : decode cX13_copy 74 = .ok (.pop, 1) := by decide +kernel
theorem dr_cX13_copy_75 : decode cX13_copy 75 = .ok (.iinc 5 1, 3) := by decide +kernel
theorem dr_cX13_copy_78 : decode cX13_copy 78 = .ok (.goto (-49), 3) := by decide +kernel
abbrev ky_195705_SpillForgeModel_load : gKey := (cX17_load, 6, "SpillForgeModel", (some FieldType.int), [], "load", fun _ _ => True)
def pg_195705_SpillForgeModel_load (D : va_G) (I : FieldType → ClassId) (γ0 el0 : Nat → Nat → Nat) (f : Nat) (B : Nat) (P195694 : List Nat) (F195695 : Nat → va_E) (q195696 : Nat) (q195697 : Nat) (q195698 : Nat) (p195699 : Int32) (p195700 : Int32) (jx195701 : Nat) : Option Value → va_W → Nat → Nat → Prop := fun r w dc ds => ∃ (P196047 : List Nat) (F196048 : Nat → va_E) (γ el : Nat → Nat → Nat) (o196046 : Int32), r = some (.int o196046) ∧ w = va_pl P196047 F196048 ∧ rSk f [101] ([3, 5, 6, 8, 9, 10, 101]) D I P195694 F195695 γ0 el0 P196047 F196048 γ el ∧ (18 * dc + rPh γ0 el0 f ≤ rPh γ el f ∧ ds + rPh γ0 el0 f ≤ rPh γ el f) ∧ rBd γ el f B ∧ gB o196046 (-1) 1999 ∧ tr_RModel_load D I γ0 el0 f P195694 F195695 q195696 q195697 q195698 p195699 p195700 o196046 P196047 F196048 γ el
set_option maxRecDepth 100000 in
set_option maxHeartbeats 1500000 in
theorem cg_195705_SpillForgeModel_load (l : Launch) (hl0 : l.stackTraces = false) (D : va_G) (I : FieldType → ClassId) (γ0 el0 : Nat → Nat → Nat) (f : Nat) (B : Nat) (P195694 : List Nat) (F195695 : Nat → va_E) (q195696 : Nat) (q195697 : Nat) (q195698 : Nat) (p195699 : Int32) (p195700 : Int32) (jx195701 : Nat) (hT0 : RS D I P195694 F195695 γ0 el0) (hzq195696 : rKd γ0 q195696 10) (hzq195697 : rKd γ0 q195697 9) (hzq195698 : rKd γ0 q195698 2) (hf0 : γ0 1 q195697 = f) (hB0 : rBd γ0 el0 f B) (hBk : B ≤ 100000) (hqjjx195701 : jx195701 < γ0 2 (γ0 14 q195697)) (hqejx195701 : el0 (γ0 14 q195697) jx195701 = q195698) (hqfjx195701 : γ0 1 q195698 = f) (bp195699 : gB p195699 0 1000000) (bp195700 : gB p195700 0 1999) (x195702 : p195699.toInt ≤ γ0 2 (γ0 14 q195698)) (x195703 : p195700.toInt < γ0 7 f) (x195704 : γ0 16 f + 1 ≤ B) : CtA (gV D I) l yX17_load cX17_load 6 (some FieldType.int) 8 170 (((387 * B + 6000) - rPh γ0 el0 f) / 18) ((387 * B + 6000) - rPh γ0 el0 f) [.ref q195696, .ref q195697, .ref q195698, .int p195699, .int p195700] (va_pl P195694 F195695) (pg_195705_SpillForgeModel_load D I γ0 el0 f B P195694 F195695 q195696 q195697 q195698 p195699 p195700 jx195701) gNA := by
  refine CtA_of hl0 (by decide) (Nat.le_of_ble_eq_true rfl) ?_
  obtain ⟨gm_0, hγ0⟩ : ∃ z, z = γ0 := ⟨_, rfl⟩
  obtain ⟨el_0, hel0⟩ : ∃ z, z = el0 := ⟨_, rfl⟩
  have hT : RS D I P195694 F195695 gm_0 el := by rw [hγ0, hel0]; exact hT0
  have hst : rSk f [101] ([3, 5, 6, 8, 9, 10, 101]) D I P195694 F195695 γ0 el0 P195694 F195695 gm_0 el := by rw [hγ0, hel0]; exact rSk_rf hT0
  have hph : rPh γ0 el0 f ≤ rPh gm_0 el_0 f := by rw [hγ0, hel0]; exact Nat.le_refl _
  have hB : rBd gm_0 el_0 f B := by rw [hγ0, hel0]; exact hB0
  have htq195696 : rKd gm_0 q195696 10 := by rw [hγ0]; exact hzq195696
  have htq195697 : rKd gm_0 q195697 9 := by rw [hγ0]; exact hzq195697
  have htq195698 : rKd gm_0 q195698 2 := by rw [hγ0]; exact hzq195698
  have hf1 : gm_0 1 q195697 = f := by rw [hγ0]; exact hf0
  have hpjjx195701 : jx195701 < gm_0 2 (gm_0 14 q195697) := by rw [hγ0]; exact hqjjx195701
  have hpejx195701 : el_0 (gm_0 14 q195697) jx195701 = q195698 := by rw [hγ0, hel0]; exact hqejx195701
  have hpfjx195701 : gm_0 1 q195698 = f := by rw [hγ0]; exact hqfjx195701
  have x195702n : p195699.toInt ≤ gm_0 2 (gm_0 14 q195698) := by rw [hγ0]; exact x195702
  have x195703n : p195700.toInt < gm_0 7 f := by rw [hγ0]; exact x195703
  have x195704n : gm_0 16 f + 1 ≤ B := by rw [hγ0]; exact x195704
  have pk195706 : rPh gm_0 el_0 f ≤ 387 * B + 6000 := rm_pk (rM_ge hT htq195697 hf1).1 (rM_bd hB)
  refine G_widen (cs' := ((rPh gm_0 el_0 f - rPh γ0 el0 f) / 18)) (sl' := (rPh gm_0 el_0 f - rPh γ0 el0 f)) (Nat.zero_le _) (Nat.zero_le _) ?_
  refine G_aload_n 0 dr_cX17_load_0 rfl ?_
  have hm195707 : q195696 ∈ P195694 := RS_m hT htq195696 (by decide)
  obtain ⟨q195709, q195710, p195711, p195712, p195713, p195714, p195715, p195716, p195717, p195718, p195719, p195720, p195721, p195722, p195723, p195724, p195725, he195708, hB195752, ht195726, ht195727, ht195728, ht195729, ht195730, ht195731, ht195732, ht195733, ht195734, ht195735, ht195736, ht195737, ht195738, ht195739, ht195740, ht195741, ht195742, ht195743, ht195744, ht195745, ht195746, ht195747, ht195748, ht195749, hB195753⟩ := show rk_10 gm_0 (F195695 q195696) from RS_o hT htq195696
  have fq195754 : fI (F195695 q195696) 14 = p195716 := by rw [he195708]; rfl
  refine Gp_get 14 hm195707 he195708 dr_cX17_load_1 (gk_X17 D I) (Nat.le_of_ble_eq_true rfl) wr_7_88 rfl ?_
  have bp195716 : gB p195716 0 2000 := (hB195752.2.2.2.1)
  refine G_sipush 2000 dr_cX17_load_4 (by decide +kernel) ?_
  refine G_icmp_ne 12 dr_cX17_load_7 (by decide +kernel) (fun hc195755 => ?_) (fun hc195755 => ?_)
  · have r195756 : p195716.toInt ≠ 2000 := gj_neq hc195755 (show Int32.toInt 2000 = 2000 by decide)
    have bp195716' : gB p195716 0 1999 := ⟨by omega, by omega⟩
    refine G_aload_n 1 dr_cX17_load_12 rfl ?_
    have rg195757 := rM_ge hT htq195697 hf1
    have rm195758 := rM_bd hB
    have bd195759 := rBd_c hT htq195697 hf1 hB
    have rc195760 := rc_at hT htq195697 hf1
    obtain ⟨q195767, hl195768⟩ : ∃ z, z = gm_0 14 q195698 := ⟨_, rfl⟩
    have hl195769 : gm_0 0 q195767 = 3 ∨ gm_0 0 q195767 = 103 := by rw [hl195768, ← hpejx195701]; exact (RS_lst hT rc195760.2.1 hpjjx195701).1
    refine Gt_row (c := q195697) (f := f) hl0 dr_cX17_load_13 ⟨wr_10_206, wr_1_15, wr_10_82, by decide, rfl, (Nat.le_of_ble_eq_true rfl), (Nat.le_of_ble_eq_true rfl)⟩ wr_10_80 wr_10_81 hT htq195697 hf1 (Nat.le_trans bd195759.2.2.1 (Nat.le_trans hBk (by decide))) (rm_cs hph rg195757.2.1 rm195758 (by decide)) (rm_sl hph rg195757.2.1 rm195758 rm_s18) (Nat.le_of_ble_eq_true rfl) (fun P195761 F195762 gm_F195762 el_F195762 q195763 dc195764 ds195765 hq195766 => ?_)
    have hq195770 := hq195766
    obtain ⟨hk195771, x0195772, x1195773, x22195774, x8195775, h16195776, h18195777, hnu195778, hot195779, h45195780, hf0195781, ⟨hr1195782, hr2195783⟩, hM195784, hBB195785⟩ := hq195766
    have hk195786 := rSk_of hk195771
    have hT195787 := hk195786.1
    have hs195788 := rSk_tr hst hk195786 (by decide) (by decide) (by decide)
    have r195789 := rSk_F hk195786 htq195696 (by decide) (by decide)
    have ht195790 : rKd gm_F195762 q195696 10 := rSk_k hk195786 htq195696 (by decide) (by decide)
    have ht195791 : rKd gm_F195762 q195697 9 := rSk_k hk195786 htq195697 (by decide) (by decide)
    have hf195792 : gm_F195762 1 q195697 = f := rSk_1 hk195786 htq195697 (by decide) hf1
    have ht195793 : rKd gm_F195762 q195698 2 := rSk_k hk195786 htq195698 (by decide) (by decide)
    have hf195794 : gm_F195762 1 q195698 = f := rSk_1 hk195786 htq195698 (by decide) hpfjx195701
    have r195795 := (rSk_s hk195786 htq195697 (by decide)).2.1
    have r195796 := hot195779 _ (by rw [rc195760.2.1]; decide) (by rw [rc195760.2.1]; decide)
    have r195797 : jx195701 < gm_F195762 2 (gm_F195762 14 q195697) := by rw [r195795, r195796.1]; exact hpjjx195701
    have r195798 : el_F195762 (gm_F195762 14 q195697) jx195701 = q195698 := by rw [r195795, r195796.2]; exact hpejx195701
    clear rg195757 rm195758 bd195759 rc195760
    have hm195799 : q195696 ∈ P195761 := RS_m hT195787 ht195790 (by decide)
    obtain ⟨q195801, q195802, p195803, p195804, p195805, p195806, p195807, p195808, p195809, p195810, p195811, p195812, p195813, p195814, p195815, p195816, p195817, he195800, hB195844, ht195818, ht195819, ht195820, ht195821, ht195822, ht195823, ht195824, ht195825, ht195826, ht195827, ht195828, ht195829, ht195830, ht195831, ht195832, ht195833, ht195834, ht195835, ht195836, ht195837, ht195838, ht195839, ht195840, ht195841, hB195845⟩ := show rk_10 gm_F195762 (F195762 q195696) from RS_o hT195787 ht195790
    have r195846 : p195805.toInt = p195713.toInt := by have z : p195805 = p195713 := congrArg (fun e => fI e 11) (he195800.symm.trans (r195789.trans he195708)); rw [z]
    have bp195805 : gB p195805 0 100 := (hB195844.2.2.1)
    have r195847 : p195808.toInt = p195716.toInt := by have z : p195808 = p195716 := congrArg (fun e => fI e 14) (he195800.symm.trans (r195789.trans he195708)); rw [z]
    have bp195808 : gB p195808 0 2000 := (hB195844.2.2.2.1)
    have bp195808' : gB p195808 0 1999 := ⟨by omega, by omega⟩
    have sz195848 := (rSk_s hk195786 htq195698 (by decide)).2.1
    have sz195849 := congrArg (gm_F195762 2) sz195848
    have sz195850 := (hot195779 q195767 (by omega) (by omega)).1
    rw [hl195768] at sz195850
    clear hl195769
    obtain ⟨nu195851, nu195852, nu195853, nu195854⟩ := hnu195778
    have r195855 := hf0195781.2.2
    have hB195856 : rBd gm_F195762 el_F195762 f B := hBB195785 B (by omega) hB
    have ht195857 : rKd gm_F195762 q195763 101 := x0195772
    have r195858 : gm_F195762 8 q195763 < gm_F195762 16 f := rm_x8 x8195775 h16195776 rfl
    have hph195859 : rPh γ0 el0 f ≤ rPh gm_F195762 el_F195762 f := rm_ph hph hr2195783
    have pk195860 : rPh gm_F195762 el_F195762 f ≤ 387 * B + 6000 := rm_pk (rM_ge hT195787 ht195791 hf195792).1 (rM_bd hB195856)
    have hm195861 : q195763 ∈ P195761 := RS_m hT195787 ht195857 (by decide)
    obtain ⟨p195863, p195864, p195865, p195866, p195867, p195868, p195869, he195862, bp195863, bp195864, bp195867, bp195868, bp195869, r195870, r195871, r195872⟩ := show rkR (F195762 q195763) from RS_o hT195787 ht195857
    have bp195865 := gB_any p195865
    have bp195866 := gB_any p195866
    have r195873 : gm_F195762 7 (gm_F195762 1 q195763) = gm_F195762 7 f := by rw [x1195773]
    have r195874 : p195868.toInt = 0 := by have z := hf0195781.1; rw [he195862] at z; exact z
    have bp195868' : gB p195868 0 0 := ⟨by omega, by omega⟩
    have r195875 : p195869.toInt = 0 := by have z := hf0195781.2.1; rw [he195862] at z; exact z
    have bp195869' : gB p195869 0 0 := ⟨by omega, by omega⟩
    refine G_widen (cs' := ((rPh gm_F195762 el_F195762 f - rPh γ0 el0 f) / 18)) (sl' := (rPh gm_F195762 el_F195762 f - rPh γ0 el0 f)) (rm_wc hph hr1195782) (rm_ws hph hr2195783) ?_
    refine G_astore (L' := [(5, .ref q195763), (0, .ref q195696), (1, .ref q195697), (2, .ref q195698), (3, .int p195699), (4, .int p195700)]) dr_cX17_load_16 (Nat.le_of_ble_eq_true rfl) rfl ?_
    refine G_aload 0 dr_cX17_load_18 rfl ?_
    refine G_bipush 21 dr_cX17_load_20 (by decide +kernel) ?_
    refine Gp_put 0 hm195861 he195862 dr_cX17_load_22 (gk_X15 D I) (Nat.le_of_ble_eq_true rfl) wr_9_177 rfl rfl rfl (Nat.le_of_ble_eq_true rfl) (fun F195876 e195877 n195878 => ?_)
    have he195879 : F195876 q195696 = .inr (22, [.ref (gm_F195762 9 0), .ref (gm_F195762 9 1), .ref (gm_F195762 9 2), .ref (gm_F195762 9 3), .ref (gm_F195762 9 4), .ref (gm_F195762 9 5), .ref (gm_F195762 9 6), .ref (gm_F195762 9 7), .ref (gm_F195762 9 8), .int p195803, .int p195804, .int p195805, .int p195806, .int p195807, .int p195808, .ref (gm_F195762 9 15), .ref (gm_F195762 9 16), .ref (gm_F195762 9 17), .ref (gm_F195762 9 18), .ref (gm_F195762 9 19), .ref (gm_F195762 9 20), .ref (gm_F195762 9 21), .ref (gm_F195762 9 22), .int p195809, .int p195810, .int p195811, .int p195812, .int p195813, .ref q195801, .ref (gm_F195762 9 29), .int p195814, .ref (gm_F195762 9 31), .int p195815, .int p195816, .int p195817, .ref q195802]) := (n195878 q195696 (rn_oo he195800 he195862 (by decide))).trans he195800
    have he195880 : F195876 q195763 = .inr (20, [.int 21, .int p195864, .int p195865, .int p195866, .int p195867, .int p195868, .int p195869]) := e195877
    have fq195881 : F195876 q195763 = cF (F195762 q195763) 0 (.int 21) := by rw [he195880, he195862]; rfl
    refine G_aload 0 dr_cX17_load_25 rfl ?_
    refine G_aload_n 1 dr_cX17_load_27 rfl ?_
    have fq195882 : fI (F195876 q195696) 14 = p195808 := by rw [he195879]; rfl
    refine Gp_get 14 hm195799 he195879 dr_cX17_load_28 (gk_X17 D I) (Nat.le_of_ble_eq_true rfl) wr_7_88 rfl ?_
    refine Gp_put 1 hm195861 he195880 dr_cX17_load_31 (gk_X15 D I) (Nat.le_of_ble_eq_true rfl) wr_9_182 rfl rfl rfl (Nat.le_of_ble_eq_true rfl) (fun F195883 e195884 n195885 => ?_)
    have he195886 : F195883 q195696 = .inr (22, [.ref (gm_F195762 9 0), .ref (gm_F195762 9 1), .ref (gm_F195762 9 2), .ref (gm_F195762 9 3), .ref (gm_F195762 9 4), .ref (gm_F195762 9 5), .ref (gm_F195762 9 6), .ref (gm_F195762 9 7), .ref (gm_F195762 9 8), .int p195803, .int p195804, .int p195805, .int p195806, .int p195807, .int p195808, .ref (gm_F195762 9 15), .ref (gm_F195762 9 16), .ref (gm_F195762 9 17), .ref (gm_F195762 9 18), .ref (gm_F195762 9 19), .ref (gm_F195762 9 20), .ref (gm_F195762 9 21), .ref (gm_F195762 9 22), .int p195809, .int p195810, .int p195811, .int p195812, .int p195813, .ref q195801, .ref (gm_F195762 9 29), .int p195814, .ref (gm_F195762 9 31), .int p195815, .int p195816, .int p195817, .ref q195802]) := (n195885 q195696 (rn_oo he195879 he195880 (by decide))).trans he195879
    have he195887 : F195883 q195763 = .inr (20, [.int 21, .int p195808, .int p195865, .int p195866, .int p195867, .int p195868, .int p195869]) := e195884
    have n195888 : ∀ b, b ≠ q195763 → F195883 b = F195762 b := fun b hb => (n195885 b hb).trans (n195878 b hb)
    have fq195889 : F195883 q195763 = cF (F195876 q195763) 1 (.int p195808) := by rw [he195887, he195880]; rfl
    refine G_aload 0 dr_cX17_load_34 rfl ?_
    refine G_iload 5 dr_cX17_load_36 rfl ?_
    refine Gp_put 4 hm195861 he195887 dr_cX17_load_38 (gk_X15 D I) (Nat.le_of_ble_eq_true rfl) wr_9_193 rfl rfl rfl (Nat.le_of_ble_eq_true rfl) (fun F195890 e195891 n195892 => ?_)
    have he195893 : F195890 q195696 = .inr (22, [.ref (gm_F195762 9 0), .ref (gm_F195762 9 1), .ref (gm_F195762 9 2), .ref (gm_F195762 9 3), .ref (gm_F195762 9 4), .ref (gm_F195762 9 5), .ref (gm_F195762 9 6), .ref (gm_F195762 9 7), .ref (gm_F195762 9 8), .int p195803, .int p195804, .int p195805, .int p195806, .int p195807, .int p195808, .ref (gm_F195762 9 15), .ref (gm_F195762 9 16), .ref (gm_F195762 9 17), .ref (gm_F195762 9 18), .ref (gm_F195762 9 19), .ref (gm_F195762 9 20), .ref (gm_F195762 9 21), .ref (gm_F195762 9 22), .int p195809, .int p195810, .int p195811, .int p195812, .int p195813, .ref q195801, .ref (gm_F195762 9 29), .int p195814, .ref (gm_F195762 9 31), .int p195815, .int p195816, .int p195817, .ref q195802]) := (n195892 q195696 (rn_oo he195886 he195887 (by decide))).trans he195886
    have he195894 : F195890 q195763 = .inr (20, [.int 21, .int p195808, .int p195865, .int p195866, .int p195700, .int p195868, .int p195869]) := e195891
    have n195895 : ∀ b, b ≠ q195763 → F195890 b = F195762 b := fun b hb => (n195892 b hb).trans (n195888 b hb)
    have fq195896 : F195890 q195763 = cF (F195883 q195763) 4 (.int p195700) := by rw [he195894, he195887]; rfl
    refine G_aload_n 3 dr_cX17_load_41 rfl ?_
    have hT195897 : RS D I P195761 F195890 gm_F195762 el := RS_set hT195787 n195895 ht195857 (by decide) ⟨21, p195808, p195865, p195866, p195700, p195868, p195869, he195894, (gB_w (gBl (show Int32.toInt 21 = 21 by decide)) (by decide) (by decide)), bp195808', bp195700, (gB_w bp195868' (by decide) (by decide)), (gB_w bp195869' (by decide) (by decide)), (Or.inr (by decide)), r195871, r195872⟩
    have hs195898 := rSk_put hs195788 hT195897 n195895 ht195857 (by decide) (by decide)
    have hm195899 : q195698 ∈ P195761 := RS_m hT195897 ht195793 (by decide)
    obtain ⟨q195901, q195902, p195903, p195904, he195900, ht195911, ht195905, ht195906, ht195907, ht195908, ht195909, bp195903, bp195904, r195910, r195912, r195913⟩ := show rk_2 gm_F195762 q195698 (F195890 q195698) from RS_o hT195897 ht195793
    have hf195914 : gm_F195762 1 q195901 = f := (show gm_F195762 1 q195901 = gm_F195762 1 q195698 from ht195906).trans hf195794
    have hf195915 : gm_F195762 1 q195902 = f := (show gm_F195762 1 q195902 = gm_F195762 1 q195698 from ht195908).trans hf195794
    have r195916 : gm_F195762 6 (gm_F195762 1 q195698) = gm_F195762 6 f := by rw [hf195794]
    have r195917 : gm_F195762 7 (gm_F195762 1 q195698) = gm_F195762 7 f := by rw [hf195794]
    have r195918 : gm_F195762 19 (gm_F195762 1 q195698) = gm_F195762 19 f := by rw [hf195794]
    have r195919 : gm_F195762 2 (gm_F195762 14 q195698) = gm_F195762 2 q195901 := by rw [ht195911.1]
    have fq195920 : fR (F195890 q195698) 0 = q195901 := by rw [he195900]; rfl
    refine Gp_get 0 hm195899 he195900 dr_cX17_load_42 (gk_X12 D I) (Nat.le_of_ble_eq_true rfl) wr_9_220 rfl ?_
    refine G_iload_n 4 dr_cX17_load_45 rfl ?_
    refine G_aload 0 dr_cX17_load_46 rfl ?_
    have rg195921 := rM_ge hT195897 ht195791 hf195792
    have rm195922 := rM_bd hB195856
    have bd195923 := rBd_c hT195897 ht195791 hf195792 hB195856
    have rc195924 := rc_at hT195897 ht195791 hf195792
    have r195926 : gm_F195762 14 (el_F195762 (gm_F195762 14 q195697) jx195701) = q195901 := by rw [r195798]; exact ht195911.1
    have r195927 := rg195921.2.2 _ r195797
    rw [r195926] at r195927
    have r195928 := bd195923.2.2.2 _ r195797
    rw [r195926] at r195928
    have r195929 : gm_F195762 7 (gm_F195762 1 q195763) = gm_F195762 7 f := by rw [x1195773]
    have hx195930 : rk_1 gm_F195762 q195763 (F195890 q195763) := ⟨21, p195808, p195865, p195866, p195700, p195868, p195869, he195894, (gB_w (gBl (show Int32.toInt 21 = 21 by decide)) (by decide) (by decide)), bp195808', bp195700, (gB_w bp195868' (by decide) (by decide)), (gB_w bp195869' (by decide) (by decide)), (Or.inr (by decide)), r195871, r195872, (Or.inr (by omega)), (Or.inl x22195774)⟩
    refine Gt_ins (c := q195697) (f := f) hl0 dr_cX17_load_48 ⟨wr_10_207, wr_1_18, wr_10_210, by decide, rfl, (Nat.le_of_ble_eq_true rfl), (Nat.le_of_ble_eq_true rfl)⟩ wr_10_208 wr_10_209 hT195897 ht195905 hf195914 ht195857 x1195773 x22195774 r195858 (by omega) ht195791 hf195792 r195797 r195926 hx195930 (by omega) (by omega) (Nat.le_trans r195928 (Nat.le_trans hBk (by decide))) (rm_cs hph195859 r195927 rm195922 (by decide)) (rm_sl hph195859 r195927 rm195922 rm_s11) (Nat.le_of_ble_eq_true rfl) (fun P195931 F195925 gm_F195925 el_F195925 dc195932 ds195933 hq195934 => ?_)
    have hq195935 := hq195934
    obtain ⟨hk195936, x0195937, h2195938, hel195939, hot195940, h16195941, h18195942, hnu195943, hFx195944, hr195945, hM195946, hBB195947⟩ := hq195934
    have hk195948 := rSk_of hk195936
    have r195949 : (fI (F195925 q195697) 3).toInt = (fI (F195890 q195697) 3).toInt := by rw [rSk_F hk195948 ht195791 (by decide) (by decide)]
    have hT195950 := hk195948.1
    have hs195951 := rSk_tr hs195898 hk195948 (by decide) (by decide) (by decide)
    have r195952 := rSk_F hk195948 ht195790 (by decide) (by decide)
    have ht195953 : rKd gm_F195925 q195696 10 := rSk_k hk195948 ht195790 (by decide) (by decide)
    have ht195954 : rKd gm_F195925 q195697 9 := rSk_k hk195948 ht195791 (by decide) (by decide)
    have hf195955 : gm_F195925 1 q195697 = f := rSk_1 hk195948 ht195791 (by decide) hf195792
    have ht195956 : rKd gm_F195925 q195698 2 := rSk_k hk195948 ht195793 (by decide) (by decide)
    have hf195957 : gm_F195925 1 q195698 = f := rSk_1 hk195948 ht195793 (by decide) hf195794
    have ht195958 : rKd gm_F195925 q195901 3 := rSk_k hk195948 ht195905 (by decide) (by decide)
    have hf195959 : gm_F195925 1 q195901 = f := rSk_1 hk195948 ht195905 (by decide) hf195914
    have r195960 := (rSk_s hk195948 ht195791 (by decide)).2.1
    have r195961 := hot195940 _ (by rw [rc195924.2.1]; decide) (fun q => by rw [q, show _ = 3 from ht195905] at rc195924; exact absurd rc195924.2.1 (by decide))
    have r195962 : jx195701 < gm_F195925 2 (gm_F195925 14 q195697) := by rw [r195960, r195961.1]; exact r195797
    have r195963 : el_F195925 (gm_F195925 14 q195697) jx195701 = q195698 := by rw [r195960, r195961.2]; exact r195798
    clear bp195863 bp195864 bp195867 bp195868 bp195869 bp195865 bp195866 bp195903 bp195904 r195912 r195913 rg195921 rm195922 bd195923 rc195924 r195927 r195928
    clear r195870 r195871 r195872 r195910
    have hm195964 : q195696 ∈ P195931 := RS_m hT195950 ht195953 (by decide)
    obtain ⟨q195966, q195967, p195968, p195969, p195970, p195971, p195972, p195973, p195974, p195975, p195976, p195977, p195978, p195979, p195980, p195981, p195982, he195965, hB196009, ht195983, ht195984, ht195985, ht195986, ht195987, ht195988, ht195989, ht195990, ht195991, ht195992, ht195993, ht195994, ht195995, ht195996, ht195997, ht195998, ht195999, ht196000, ht196001, ht196002, ht196003, ht196004, ht196005, ht196006, hB196010⟩ := show rk_10 gm_F195925 (F195925 q195696) from RS_o hT195950 ht195953
    have r196011 : p195970.toInt = p195805.toInt := by have z : p195970 = p195805 := congrArg (fun e => fI e 11) (he195965.symm.trans (r195952.trans he195893)); rw [z]
    have bp195970 : gB p195970 0 100 := (hB196009.2.2.1)
    have r196012 : p195973.toInt = p195808.toInt := by have z : p195973 = p195808 := congrArg (fun e => fI e 14) (he195965.symm.trans (r195952.trans he195893)); rw [z]
    have bp195973 : gB p195973 0 2000 := (hB196009.2.2.2.1)
    have bp195973' : gB p195973 0 1999 := ⟨by omega, by omega⟩
    obtain ⟨nu196013, nu196014, nu196015, nu196016⟩ := hnu195943
    have ht196017 : rKd gm_F195925 q195763 1 := x0195937
    have hB196018 : rBd gm_F195925 el_F195925 f B := hBB195947 B hB195856
    have hph196019 : rPh γ0 el0 f ≤ rPh gm_F195925 el_F195925 f := rm_ph hph195859 hr195945.2
    have pk196020 : rPh gm_F195925 el_F195925 f ≤ 387 * B + 6000 := rm_pk (rM_ge hT195950 ht195954 hf195955).1 (rM_bd hB196018)
    refine G_widen (cs' := ((rPh gm_F195925 el_F195925 f - rPh γ0 el0 f) / 18)) (sl' := (rPh gm_F195925 el_F195925 f - rPh γ0 el0 f)) (rm_wc hph195859 hr195945.1) (rm_ws hph195859 hr195945.2) ?_
    refine G_aload_n 1 dr_cX17_load_51 rfl ?_
    refine G_dup dr_cX17_load_52 rfl ?_
    have fq196021 : fI (F195925 q195696) 14 = p195973 := by rw [he195965]; rfl
    refine Gp_get 14 hm195964 he195965 dr_cX17_load_53 (gk_X17 D I) (Nat.le_of_ble_eq_true rfl) wr_7_88 rfl ?_
    refine G_iconst 1 dr_cX17_load_56 (by decide +kernel) ?_
    refine G_iadd dr_cX17_load_57 (G_nam fun z196022 hz196022 => ?_)
    have ez196022 : z196022.toInt = p195973.toInt + 1 := by rw [gI_add hz196022 bp195973' (gBl (show Int32.toInt 1 = 1 by decide)) (by decide) (by decide), show Int32.toInt 1 = 1 from by decide]
    have bz196022 : gB z196022 1 2000 := gB_add (gI_add hz196022 bp195973' (gBl (show Int32.toInt 1 = 1 by decide)) (by decide) (by decide)) bp195973' (gBl (show Int32.toInt 1 = 1 by decide)) (by decide) (by decide)
    refine Gp_put 14 hm195964 he195965 dr_cX17_load_58 (gk_X17 D I) (Nat.le_of_ble_eq_true rfl) wr_7_88 rfl rfl rfl (Nat.le_of_ble_eq_true rfl) (fun F196023 e196024 n196025 => ?_)
    have he196026 : F196023 q195696 = .inr (22, [.ref (gm_F195925 9 0), .ref (gm_F195925 9 1), .ref (gm_F195925 9 2), .ref (gm_F195925 9 3), .ref (gm_F195925 9 4), .ref (gm_F195925 9 5), .ref (gm_F195925 9 6), .ref (gm_F195925 9 7), .ref (gm_F195925 9 8), .int p195968, .int p195969, .int p195970, .int p195971, .int p195972, .int z196022, .ref (gm_F195925 9 15), .ref (gm_F195925 9 16), .ref (gm_F195925 9 17), .ref (gm_F195925 9 18), .ref (gm_F195925 9 19), .ref (gm_F195925 9 20), .ref (gm_F195925 9 21), .ref (gm_F195925 9 22), .int p195974, .int p195975, .int p195976, .int p195977, .int p195978, .ref q195966, .ref (gm_F195925 9 29), .int p195979, .ref (gm_F195925 9 31), .int p195980, .int p195981, .int p195982, .ref q195967]) := e196024
    have fq196027 : F196023 q195696 = cF (F195925 q195696) 14 (.int z196022) := by rw [he196026, he195965]; rfl
    refine G_aload 0 dr_cX17_load_61 rfl ?_
    have hT196028 : RS D I P195931 F196023 gm_F195925 el := RS_set hT195950 n196025 ht195953 (by decide) ⟨q195966, q195967, p195968, p195969, p195970, p195971, p195972, z196022, p195974, p195975, p195976, p195977, p195978, p195979, p195980, p195981, p195982, he196026, ⟨(hB196009.1), (hB196009.2.1), bp195970, (gB_w bz196022 (by decide) (by decide)), (hB196009.2.2.2.2.1), (hB196009.2.2.2.2.2.1), (hB196009.2.2.2.2.2.2.1), (hB196009.2.2.2.2.2.2.2.1), (hB196009.2.2.2.2.2.2.2.2)⟩, ht195983, ht195984, ht195985, ht195986, ht195987, ht195988, ht195989, ht195990, ht195991, ht195992, ht195993, ht195994, ht195995, ht195996, ht195997, ht195998, ht195999, ht196000, ht196001, ht196002, ht196003, ht196004, ht196005, ht196006, hB196010⟩
    have hs196029 := rSk_put hs195951 hT196028 n196025 ht195953 (by decide) (by decide)
    have hm196030 : q195763 ∈ P195931 := RS_m hT196028 ht196017 (by decide)
    obtain ⟨p196032, p196033, p196034, p196035, p196036, p196037, p196038, he196031, bp196032, bp196033, bp196036, bp196037, bp196038, r196039, r196040, r196041, r196042, r196043⟩ := show rk_1 gm_F195925 q195763 (F196023 q195763) from RS_o hT196028 ht196017
    have bp196034 := gB_any p196034
    have bp196035 := gB_any p196035
    have fq196044 : fI (F196023 q195763) 1 = p196033 := by rw [he196031]; rfl
    refine Gp_get 1 hm196030 he196031 dr_cX17_load_63 (gk_X15 D I) (Nat.le_of_ble_eq_true rfl) wr_9_182 rfl ?_
    exact G_iretA dr_cX17_load_66 rfl (show ((rPh gm_F195925 el_F195925 f - rPh γ0 el0 f) / 18) ≤ (((387 * B + 6000) - rPh γ0 el0 f) / 18) by omega) (show (rPh gm_F195925 el_F195925 f - rPh γ0 el0 f) ≤ ((387 * B + 6000) - rPh γ0 el0 f) by omega) ⟨P195931, F196023, gm_F195925, el_F195925, p196033, rfl, rfl, hs196029, ⟨by omega, by omega⟩, hB196018, (gB_w bp196033 (by decide) (by decide)), (fun R c1 c2 => c1 gm_0 el_0 p195716 P195761 F195762 gm_F195762 el_F195762 q195763 dc195764 ds195765 F195876 p195808 F195883 F195890 q195901 P195931 F195925 gm_F195925 el_F195925 dc195932 ds195933 p195973 z196022 F196023 p196033 hγ0 hel0 fq195754 r195756 hq195770 n195878 fq195881 fq195882 n195885 fq195889 n195892 fq195896 fq195920 hq195935 fq196021 ez196022 n196025 fq196027 fq196044)⟩
  · have r196045 : p195716.toInt = 2000 := gj_eq hc195755 (show Int32.toInt 2000 = 2000 by decide)
    have bp195716' : gB p195716 2000 2000 := ⟨by omega, by omega⟩
    refine G_iconst (-1) dr_cX17_load_10 (by decide +kernel) ?_
    exact G_iretA dr_cX17_load_11 rfl (show ((rPh gm_F195925 el_F195925 f - rPh γ0 el0 f) / 18) ≤ (((387 * B + 6000) - rPh γ0 el0 f) / 18) by omega) (show (rPh gm_F195925 el_F195925 f - rPh γ0 el0 f) ≤ ((387 * B + 6000) - rPh γ0 el0 f) by omega) ⟨P195694, F195695, gm_F195925, el_F195925, (-1), rfl, rfl, hst, ⟨by omega, by omega⟩, hB, (gB_w (gBl (show Int32.toInt (-1) = (-1) by decide)) (by decide) (by decide)), (fun R c1 c2 => c2 gm_0 el_0 p195716 hγ0 hel0 fq195754 r196045)⟩
/- tl_RCode_copy_29: P, F, gm, el, l5; out: F, P, gm, el -/
def tl_RCode_copy_29 (D : va_G) (I : FieldType → ClassId) (γ0 el0 : Nat → Nat → Nat) (f : Nat) (fo : Nat) (P : List Nat) (F : Nat → va_E) (q0 : Nat) (l2_1 : Int32) (q1 : Nat) (c1 : Nat) (c2 : Nat) (s1 : List Nat) (s2 : Nat → va_E) (s3 : Nat → Nat → Nat) (s4 : Nat → Nat → Nat) (s5 : Int32) (k : Nat) (e1 : Nat → va_E) (e2 : List Nat) (e3 : Nat → Nat → Nat) (e4 : Nat → Nat → Nat) : Prop := ∀ R : (List Nat) → (Nat → va_E) → (Nat → Nat → Nat) → (Nat → Nat → Nat) → (Int32) → Nat → (Nat → va_E) → (List Nat) → (Nat → Nat → Nat) → (Nat → Nat → Nat) → Prop,
  (∀ (P_2 : List Nat) (F_2 : Nat → va_E) (gm_2 : Nat → Nat → Nat) (el_2 : Nat → Nat → Nat) (l5_2 : Int32) (x1 : Nat) (x2 : Int32), gB l5_2 0 1000000 → RS D I P_2 F_2 gm_2 el_2 → rSk f [1, 2, 3, 101, 102, 103, 202] ([1, 2, 3, 4, 5, 6, 7, 8, 9, 101, 102, 103, 202]) D I P F γ0 el0 P_2 F_2 gm_2 el_2 → gm_2 6 f = 0 → gm_2 19 f = γ0 6 fo → gm_2 18 f = 0 → gm_2 7 f = 0 → (fI (F_2 q0) 3).toInt = l2_1.toInt + 1 → rKb gm_2 el_2 q0 (l2_1.toInt : Int).toNat → (gm_2 16 f ≤ rsum (fun i => γ0 2 (γ0 14 (el0 (γ0 14 q1) i))) (l2_1.toInt : Int).toNat + (l5_2.toInt : Int).toNat) → (l2_1.toInt : Int) < γ0 6 fo → c1 = el0 (γ0 14 q1) (l2_1.toInt : Int).toNat → (l5_2.toInt : Int) ≤ γ0 2 (γ0 14 c1) → fR (F_2 c1) 0 = x1 → x2.toInt = (gm_2 2 x1 : Int) → fI (F_2 x1) 2 = x2 → x2.toInt ≤ l5_2.toInt → R P_2 F_2 gm_2 el_2 l5_2 81 F_2 P_2 gm_2 el_2) →
  (∀ (P_2 : List Nat) (F_2 : Nat → va_E) (gm_2 : Nat → Nat → Nat) (el_2 : Nat → Nat → Nat) (l5_2 : Int32) (x1 : Nat) (x2 : Int32) (x3 : List Nat) (x4 : Nat → va_E) (x5 : Nat → Nat → Nat) (x6 : Nat → Nat → Nat) (x7 : Nat) (x8 : Nat) (x9 : Nat) (x10 : Nat) (x11 : Nat) (x12 : Int32) (x13 : Int32) (x14 : Int32) (x15 : Int32) (x16 : Int32) (x17 : Int32) (x18 : Int32) (x19 : Int32) (x20 : Nat → va_E) (x21 : Nat) (x22 : List Nat) (x23 : Nat → va_E) (x24 : Nat → Nat → Nat) (x25 : Nat → Nat → Nat) (x26 : Nat) (x27 : Nat) (x28 : Int32) (k : Nat) (e1 : Nat → va_E) (e2 : List Nat) (e3 : Nat → Nat → Nat) (e4 : Nat → Nat → Nat), gB l5_2 0 1000000 → RS D I P_2 F_2 gm_2 el_2 → rSk f [1, 2, 3, 101, 102, 103, 202] ([1, 2, 3, 4, 5, 6, 7, 8, 9, 101, 102, 103, 202]) D I P F γ0 el0 P_2 F_2 gm_2 el_2 → gm_2 6 f = 0 → gm_2 19 f = γ0 6 fo → gm_2 18 f = 0 → gm_2 7 f = 0 → (fI (F_2 q0) 3).toInt = l2_1.toInt + 1 → rKb gm_2 el_2 q0 (l2_1.toInt : Int).toNat → (gm_2 16 f ≤ rsum (fun i => γ0 2 (γ0 14 (el0 (γ0 14 q1) i))) (l2_1.toInt : Int).toNat + (l5_2.toInt : Int).toNat) → (l2_1.toInt : Int) < γ0 6 fo → c1 = el0 (γ0 14 q1) (l2_1.toInt : Int).toNat → (l5_2.toInt : Int) ≤ γ0 2 (γ0 14 c1) → fR (F_2 c1) 0 = x1 → x2.toInt = (gm_2 2 x1 : Int) → fI (F_2 x1) 2 = x2 → l5_2.toInt < x2.toInt → rRq D I P_2 F_2 gm_2 el_2 f q0 x3 x4 x5 x6 x7 x8 x9 → fR (x4 c1) 0 = x10 → x11 = x6 x10 l5_2.toInt.toNat → fI (x4 x10) 2 = x12 → tr_RArrayList_get l5_2 x12 → fI (x4 x11) 0 = x13 → fI (x4 x11) 1 = x14 → fI (x4 x11) 2 = x15 → fI (x4 x11) 3 = x16 → fI (x4 x11) 4 = x17 → fI (x4 x11) 5 = x18 → fI (x4 x11) 6 = x19 → rFr [x7] x3 x4 x20 → x20 x7 = .inr (20, [.int x13, .int x14, .int x15, .int x16, .int x17, .int x18, .int x19]) → fR (x20 c2) 0 = x21 → rIq D I x3 x20 x5 x6 f x21 (x5 2 x21) x7 x22 x23 x24 x25 x26 x27 → x28.toInt = l5_2.toInt + 1 → R x22 x23 x24 x25 x28 k e1 e2 e3 e4 → R P_2 F_2 gm_2 el_2 l5_2 k e1 e2 e3 e4) →
  R s1 s2 s3 s4 s5 k e1 e2 e3 e4
/- tl_RCode_copy_6: P, F, gm, el, l2; out: F, P, gm, el -/
def tl_RCode_copy_6 (D : va_G) (I : FieldType → ClassId) (γ0 el0 : Nat → Nat → Nat) (f : Nat) (fo : Nat) (P : List Nat) (F : Nat → va_E) (q0 : Nat) (q1 : Nat) (s1 : List Nat) (s2 : Nat → va_E) (s3 : Nat → Nat → Nat) (s4 : Nat → Nat → Nat) (s5 : Int32) (k : Nat) (e1 : Nat → va_E) (e2 : List Nat) (e3 : Nat → Nat → Nat) (e4 : Nat → Nat → Nat) : Prop := ∀ R : (List Nat) → (Nat → va_E) → (Nat → Nat → Nat) → (Nat → Nat → Nat) → (Int32) → Nat → (Nat → va_E) → (List Nat) → (Nat → Nat → Nat) → (Nat → Nat → Nat) → Prop,
  (∀ (P_1 : List Nat) (F_1 : Nat → va_E) (gm_1 : Nat → Nat → Nat) (el_1 : Nat → Nat → Nat) (l2_1 : Int32) (x1 : Int32), gB l2_1 0 1000000 → RS D I P_1 F_1 gm_1 el_1 → rSk f [1, 2, 3, 101, 102, 103, 202] ([1, 2, 3, 4, 5, 6, 7, 8, 9, 101, 102, 103, 202]) D I P F γ0 el0 P_1 F_1 gm_1 el_1 → gm_1 6 f = 0 → gm_1 19 f = γ0 6 fo → gm_1 18 f = 0 → gm_1 7 f = 0 → (fI (F_1 q0) 3).toInt = l2_1.toInt → rKb gm_1 el_1 q0 (l2_1.toInt : Int).toNat → (gm_1 16 f ≤ rsum (fun i => γ0 2 (γ0 14 (el0 (γ0 14 q1) i))) (l2_1.toInt : Int).toNat) → (l2_1.toInt : Int) ≤ γ0 6 fo → fI (F_1 q1) 3 = x1 → x1.toInt ≤ l2_1.toInt → R P_1 F_1 gm_1 el_1 l2_1 117 F_1 P_1 gm_1 el_1) →
  (∀ (P_1 : List Nat) (F_1 : Nat → va_E) (gm_1 : Nat → Nat → Nat) (el_1 : Nat → Nat → Nat) (l2_1 : Int32) (x1 : Int32) (x2 : Nat) (x3 : Nat) (x4 : Int32) (x5 : List Nat) (x6 : Nat → va_E) (x7 : Nat → Nat → Nat) (x8 : Nat → Nat → Nat) (x9 : Nat) (x10 : Nat) (x11 : Nat) (x12 : Nat → va_E) (x13 : List Nat) (x14 : Nat → Nat → Nat) (x15 : Nat → Nat → Nat) (x16 : Nat) (x17 : Nat) (x18 : Int32) (x19 : Int32) (x20 : Int32) (x21 : Int32) (x22 : Int32) (x23 : Int32) (x24 : Int32) (x25 : Nat → va_E) (x26 : Int32) (x27 : Nat → va_E) (x28 : Int32) (x29 : Nat → va_E) (x30 : Nat → Nat → Nat) (x31 : Int32) (k : Nat) (e1 : Nat → va_E) (e2 : List Nat) (e3 : Nat → Nat → Nat) (e4 : Nat → Nat → Nat), gB l2_1 0 1000000 → RS D I P_1 F_1 gm_1 el_1 → rSk f [1, 2, 3, 101, 102, 103, 202] ([1, 2, 3, 4, 5, 6, 7, 8, 9, 101, 102, 103, 202]) D I P F γ0 el0 P_1 F_1 gm_1 el_1 → gm_1 6 f = 0 → gm_1 19 f = γ0 6 fo → gm_1 18 f = 0 → gm_1 7 f = 0 → (fI (F_1 q0) 3).toInt = l2_1.toInt → rKb gm_1 el_1 q0 (l2_1.toInt : Int).toNat → (gm_1 16 f ≤ rsum (fun i => γ0 2 (γ0 14 (el0 (γ0 14 q1) i))) (l2_1.toInt : Int).toNat) → (l2_1.toInt : Int) ≤ γ0 6 fo → fI (F_1 q1) 3 = x1 → l2_1.toInt < x1.toInt → fR (F_1 q1) 0 = x2 → x3 = el_1 x2 l2_1.toInt.toNat → fI (F_1 x2) 2 = x4 → tr_RCode_get l2_1 x4 → rBq D I P_1 F_1 gm_1 el_1 f q0 x5 x6 x7 x8 x9 x10 x11 → tl_RCode_copy_29 D I γ0 el0 f fo P F q0 l2_1 q1 x3 x9 x5 x6 x7 x8 (0 : Int32) 81 x12 x13 x14 x15 → fR (x12 x9) 1 = x16 → fR (x12 x3) 1 = x17 → fI (x12 x17) 0 = x18 → fI (x12 x17) 1 = x19 → fI (x12 x17) 2 = x20 → fI (x12 x17) 3 = x21 → fI (x12 x17) 4 = x22 → fI (x12 x17) 5 = x23 → fI (x12 x17) 6 = x24 → rFr [x16] x13 x12 x25 → x25 x16 = .inr (20, [.int x18, .int x19, .int x20, .int x21, .int x22, .int x23, .int x24]) → fI (x25 x3) 2 = x26 → (∀ b, b ≠ x9 → x27 b = x25 b) → x27 x9 = cF (x25 x9) 2 (.int x26) → fI (x27 x3) 3 = x28 → (∀ b, b ≠ x9 → x29 b = x27 b) → x29 x9 = cF (x27 x9) 3 (.int x28) → fR (x29 x9) 1 = x16 → x30 = gSea x14 x9 x16 → x31.toInt = l2_1.toInt + 1 → R x13 x29 x30 x15 x31 k e1 e2 e3 e4 → R P_1 F_1 gm_1 el_1 l2_1 k e1 e2 e3 e4) →
  R s1 s2 s3 s4 s5 k e1 e2 e3 e4
/- tr_RCode_copy: P, F, gm, el -/
def tr_RCode_copy (D : va_G) (I : FieldType → ClassId) (γ0 el0 : Nat → Nat → Nat) (f : Nat) (fo : Nat) (P : List Nat) (F : Nat → va_E) (q0 : Nat) (q1 : Nat) (o1 : List Nat) (o2 : Nat → va_E) (o3 : Nat → Nat → Nat) (o4 : Nat → Nat → Nat) : Prop := ∀ R : (List Nat) → (Nat → va_E) → (Nat → Nat → Nat) → (Nat → Nat → Nat) → Prop,
  (∀ (x1 : Nat → Nat → Nat) (x2 : Nat → Nat → Nat) (x3 : Nat → va_E) (x4 : Nat → Nat → Nat) (x5 : Nat → Nat → Nat) (x6 : Nat → va_E) (x7 : List Nat) (x8 : Nat → Nat → Nat) (x9 : Nat → Nat → Nat) (x10 : Nat → Nat → Nat), x1 = γ0 → x2 = el0 → rGq D I P F x1 x2 f q0 (γ0 6 fo) x3 x4 x5 → tl_RCode_copy_6 D I γ0 el0 f fo P F q0 q1 P x3 x4 x5 (0 : Int32) 117 x6 x7 x8 x9 → x10 = gVal x8 6 f (γ0 6 fo) → R x7 x6 x10 x9) →
  R o1 o2 o3 o4
abbrev ky_196056_Code_copy : gKey := (cX13_copy, 7, "SpillForgeModel$Code", none, [], "copy", fun _ _ => True)
def pg_196056_Code_copy (D : va_G) (I : FieldType → ClassId) (γ0 el0 : Nat → Nat → Nat) (f : Nat) (fo : Nat) (B : Nat) (P196049 : List Nat) (F196050 : Nat → va_E) (q196051 : Nat) (q196052 : Nat) : Option Value → va_W → Nat → Nat → Prop := fun r w dc ds => ∃ (P210480 : List Nat) (F210481 : Nat → va_E) (γ el : Nat → Nat → Nat), r = none ∧ w = va_pl P210480 F210481 ∧ rSk f [1, 2, 3, 101, 102, 103, 202] ([1, 2, 3, 4, 5, 6, 7, 8, 9, 101, 102, 103, 202]) D I P196049 F196050 γ0 el0 P210480 F210481 γ el ∧ (18 * dc + rPh γ0 el0 f ≤ rPh γ el f ∧ ds + rPh γ0 el0 f ≤ rPh γ el f) ∧ rBd γ el f B ∧ γ 6 f = γ0 6 fo ∧ γ 7 f = 0 ∧ γ 16 f ≤ γ0 16 fo ∧ γ 18 f = 0 ∧ tr_RCode_copy D I γ0 el0 f fo P196049 F196050 q196051 q196052 P210480 F210481 γ el
set_option maxRecDepth 100000 in
set_option maxHeartbeats 1500000 in
theorem cg_196056_Code_copy (l : Launch) (hl0 : l.stackTraces = false) (D : va_G) (I : FieldType → ClassId) (γ0 el0 : Nat → Nat → Nat) (f : Nat) (fo : Nat) (B : Nat) (P196049 : List Nat) (F196050 : Nat → va_E) (q196051 : Nat) (q196052 : Nat) (hT0 : RS D I P196049 F196050 γ0 el0) (hzq196051 : rKd γ0 q196051 9) (hzq196052 : rKd γ0 q196052 9) (hf0 : γ0 1 q196051 = f) (hfo0 : γ0 1 q196052 = fo) (hne : fo ≠ f) (hB0 : rBd γ0 el0 f B) (hBk : B ≤ 100000) (x196053 : 0 < γ0 6 fo) (x196054 : γ0 7 fo = 0) (x196055 : γ0 16 fo ≤ B) : CtA (gV D I) l yX13_copy cX13_copy 7 none 8 170 (((387 * B + 6000) - rPh γ0 el0 f) / 18) ((387 * B + 6000) - rPh γ0 el0 f) [.ref q196051, .ref q196052] (va_pl P196049 F196050) (pg_196056_Code_copy D I γ0 el0 f fo B P196049 F196050 q196051 q196052) gNA := by
  refine CtA_of hl0 (by decide) (Nat.le_of_ble_eq_true rfl) ?_
  obtain ⟨gm_0, hγ0⟩ : ∃ z, z = γ0 := ⟨_, rfl⟩
  obtain ⟨el_0, hel0⟩ : ∃ z, z = el0 := ⟨_, rfl⟩
  have hT : RS D I P196049 F196050 gm_0 el := by rw [hγ0, hel0]; exact hT0
  have hst : rSk f [1, 2, 3, 101, 102, 103, 202] ([1, 2, 3, 4, 5, 6, 7, 8, 9, 101, 102, 103, 202]) D I P196049 F196050 γ0 el0 P196049 F196050 gm_0 el := by rw [hγ0, hel0]; exact rSk_rf hT0
  have hph : rPh γ0 el0 f ≤ rPh gm_0 el_0 f := by rw [hγ0, hel0]; exact Nat.le_refl _
  have hB : rBd gm_0 el_0 f B := by rw [hγ0, hel0]; exact hB0
  have htq196051 : rKd gm_0 q196051 9 := by rw [hγ0]; exact hzq196051
  have htq196052 : rKd gm_0 q196052 9 := by rw [hγ0]; exact hzq196052
  have hf1 : gm_0 1 q196051 = f := by rw [hγ0]; exact hf0
  have hfo1 : gm_0 1 q196052 = fo := by rw [hγ0]; exact hfo0
  have x196053n : 0 < gm_0 6 fo := by rw [hγ0]; exact x196053
  have x196054n : gm_0 7 fo = 0 := by rw [hγ0]; exact x196054
  have x196055n : gm_0 16 fo ≤ B := by rw [hγ0]; exact x196055
  have pk196057 : rPh gm_0 el_0 f ≤ 387 * B + 6000 := rm_pk (rM_ge hT htq196051 hf1).1 (rM_bd hB)
  refine G_widen (cs' := ((rPh gm_0 el_0 f - rPh γ0 el0 f) / 18)) (sl' := (rPh gm_0 el_0 f - rPh γ0 el0 f)) (Nat.zero_le _) (Nat.zero_le _) ?_
  have r196058 := rSk_g hst hne
  have r196059 : 0 < gm_0 6 (gm_0 1 q196052) := by rw [hfo1, r196058.1]; exact x196053
  have r196060 : gm_0 6 fo = γ0 6 fo := r196058.1
  have r196061 : gm_0 7 fo = 0 := by rw [r196058.2.1]; exact x196054
  refine G_aload_n 0 dr_cX13_copy_0 rfl ?_
  have rg196062 := rM_ge hT htq196051 hf1
  have rm196063 := rM_bd hB
  have bd196064 := rBd_c hT htq196051 hf1 hB
  refine Gt_beg (c := q196051) (f := f) (γ0 6 fo) hl0 dr_cX13_copy_1 ⟨wr_10_136, wr_1_15, wr_9_88, by decide, rfl, (Nat.le_of_ble_eq_true rfl), (Nat.le_of_ble_eq_true rfl)⟩ wr_9_86 wr_9_87 hT htq196051 hf1 (rm_zc pk196057) (rm_zs pk196057) (Nat.le_of_ble_eq_true rfl) (fun F196065 gm_F196065 el_F196065 hq196066 => ?_)
  have hq196067 := hq196066
  obtain ⟨hk196068, h6196069, h7196070, h16196071, h18196072, h19196073, h23196074, h2196075, hel196076, hmd196077, hr196078, hM196079, hBB196080⟩ := hq196066
  have hk196081 := rSk_of hk196068
  have hT196082 := hk196081.1
  have hs196083 := rSk_tr hst hk196081 (by decide) (by decide) (by decide)
  have ht196084 : rKd gm_F196065 q196051 9 := rSk_k hk196081 htq196051 (by decide) (by decide)
  have hf196085 : gm_F196065 1 q196051 = f := rSk_1 hk196081 htq196051 (by decide) hf1
  have ht196086 : rKd gm_F196065 q196052 9 := rSk_kf hk196081 htq196052 (by decide) (by rw [hfo1]; exact hne)
  have hf196087 : gm_F196065 1 q196052 = fo := rSk_1 hk196081 htq196052 (by decide) hfo1
  clear rg196062 rm196063 bd196064
  have r196088 := rSk_g hs196083 hne
  have r196089 : 0 < gm_F196065 6 (gm_F196065 1 q196052) := by rw [hf196087, r196088.1]; exact x196053
  have r196090 : gm_F196065 6 fo = γ0 6 fo := r196088.1
  have r196091 : gm_F196065 7 fo = 0 := by rw [r196088.2.1]; exact x196054
  have hB196092 : rBd gm_F196065 el_F196065 f B := hBB196080 B hB
  have hph196093 : rPh γ0 el0 f ≤ rPh gm_F196065 el_F196065 f := by rw [hr196078]; exact hph
  have pk196094 : rPh gm_F196065 el_F196065 f ≤ 387 * B + 6000 := rm_pk (rM_ge hT196082 ht196084 hf196085).1 (rM_bd hB196092)
  refine G_widen (cs' := ((rPh gm_F196065 el_F196065 f - rPh γ0 el0 f) / 18)) (sl' := (rPh gm_F196065 el_F196065 f - rPh γ0 el0 f)) (rm_ec hr196078) (rm_es hr196078) ?_
  refine G_iconst 0 dr_cX13_copy_4 (by decide +kernel) ?_
  refine G_istore_n (L' := [(2, .int 0), (0, .ref q196051), (1, .ref q196052)]) dr_cX13_copy_5 (Nat.le_of_ble_eq_true rfl) rfl ?_
  have hlp6_209369 : ∀ (n6_209369 : Nat) (P209356 : List Nat) (F209357 : Nat → va_E) (gm_F209357 el_F209357 : Nat → Nat → Nat) (g209355 : Int32), gB g209355 0 1000000 → RS D I P209356 F209357 gm_F209357 el_F209357 → rSk f [1, 2, 3, 101, 102, 103, 202] ([1, 2, 3, 4, 5, 6, 7, 8, 9, 101, 102, 103, 202]) D I P196049 F196050 γ0 el0 P209356 F209357 gm_F209357 el_F209357 → rPh γ0 el0 f ≤ rPh gm_F209357 el_F209357 f → rBd gm_F209357 el_F209357 f B → gm_F209357 6 f = 0 → gm_F209357 19 f = γ0 6 fo → gm_F209357 18 f = 0 → gm_F209357 7 f = 0 → (fI (F209357 q196051) 3).toInt = g209355.toInt → rKb gm_F209357 el_F209357 q196051 (g209355.toInt : Int).toNat → gm_F209357 16 f ≤ rsum (fun i => γ0 2 (γ0 14 (el0 (γ0 14 q196052) i))) (g209355.toInt : Int).toNat → (g209355.toInt : Int) ≤ γ0 6 fo → (∀ (k : Nat) (e1 : Nat → va_E) (e2 : List Nat) (e3 : Nat → Nat → Nat) (e4 : Nat → Nat → Nat), tl_RCode_copy_6 D I γ0 el0 f fo P196049 F196050 q196051 q196052 P209356 F209357 gm_F209357 el_F209357 g209355 k e1 e2 e3 e4 → tl_RCode_copy_6 D I γ0 el0 f fo P196049 F196050 q196051 q196052 P196049 F196065 gm_F196065 el_F196065 (0 : Int32) k e1 e2 e3 e4) → (γ0 6 fo - (g209355.toInt : Int).toNat) < n6_209369 → G (gV D I) l (gRm 8 170 (((387 * B + 6000) - rPh γ0 el0 f) / 18) ((387 * B + 6000) - rPh γ0 el0 f)) (gMA (gV D I) (pg_196056_Code_copy D I γ0 el0 f fo B P196049 F196050 q196051 q196052) gNA (((387 * B + 6000) - rPh γ0 el0 f) / 18) ((387 * B + 6000) - rPh γ0 el0 f)) ky_196056_Code_copy 6 [(2, .int g209355), (0, .ref q196051), (1, .ref q196052)] [] (va_pl P209356 F209357) ((rPh gm_F209357 el_F209357 f - rPh γ0 el0 f) / 18) (rPh gm_F209357 el_F209357 f - rPh γ0 el0 f) := by
    intro n6_209369
    induction n6_209369 with
    | zero => intro P209356 F209357 gm_F209357 el_F209357 g209355 bg209355 hT209358 hs209359 hph209360 hB209361 x209362 x209363 x209364 x209365 x209366 x209367 x209368 x209369 kt6_209370 hm6_209369; exact absurd hm6_209369 (Nat.not_lt_zero _)
    | succ n6_209369 ih6_209369 =>
      intro P209356 F209357 gm_F209357 el_F209357 g209355 bg209355 hT209358 hs209359 hph209360 hB209361 x209362 x209363 x209364 x209365 x209366 x209367 x209368 x209369 kt6_209370 hm6_209369
      clear h6196069 h7196070 h16196071 h18196072 h19196073 h23196074 h2196075 hmd196077 hr196078 hM196079 r196088 r196089 r196090 r196091 hph196093 pk196094
      have ht209371 : rKd gm_F209357 q196051 9 := rSk_k hs209359 hzq196051 (by decide) (by decide)
      have hf209372 : gm_F209357 1 q196051 = f := rSk_1 hs209359 hzq196051 (by decide) hf0
      have ht209373 : rKd gm_F209357 q196052 9 := rSk_k hs209359 hzq196052 (by decide) (by decide)
      have hf209374 : gm_F209357 1 q196052 = fo := rSk_1 hs209359 hzq196052 (by decide) hfo0
      have pk209375 : rPh gm_F209357 el_F209357 f ≤ 387 * B + 6000 := rm_pk (rM_ge hT209358 ht209371 hf209372).1 (rM_bd hB209361)
      have r209376 := rSk_g hs209359 hne
      have r209377 : 0 < gm_F209357 6 (gm_F209357 1 q196052) := by rw [hf209374, r209376.1]; exact x196053
      have r209378 : gm_F209357 6 fo = γ0 6 fo := r209376.1
      have r209379 : gm_F209357 7 fo = 0 := by rw [r209376.2.1]; exact x196054
      refine G_iload_n 0 dr_cX13_copy_6 rfl ?_
      refine G_aload_n 2 dr_cX13_copy_7 rfl ?_
      have hm209380 : q196052 ∈ P209356 := RS_m hT209358 ht209373 (by decide)
      obtain ⟨q209382, q209383, p209384, p209385, he209381, ht209401, ht209386, ht209387, ht209388, ht209389, r209390, r209391, r209392, r209393, r209394, r209395, r209396, r209397, r209398, r209399, r209400⟩ := show rk_9 gm_F209357 el_F209357 q196052 (F209357 q196052) from RS_o hT209358 ht209373
      have bp209384 : gB p209384 0 1000000 := ⟨by omega, by omega⟩
      have bp209385 : gB p209385 0 1000000 := ⟨by omega, by omega⟩
      have hf209402 : gm_F209357 1 q209382 = fo := (show gm_F209357 1 q209382 = gm_F209357 1 q196052 from ht209387).trans hf209374
      have hf209403 : gm_F209357 1 q209383 = fo := (show gm_F209357 1 q209383 = gm_F209357 1 q196052 from ht209389).trans hf209374
      have r209404 : gm_F209357 6 (gm_F209357 1 q196052) = gm_F209357 6 fo := by rw [hf209374]
      have r209405 : gm_F209357 16 (gm_F209357 1 q196052) = gm_F209357 16 fo := by rw [hf209374]
      have r209406 : p209385.toInt = gm_F209357 6 fo ∧ p209385.toInt ≤ 40 := by omega
      clear r209396
      have fq209407 : fI (F209357 q196052) 3 = p209385 := by rw [he209381]; rfl
      refine Gw_callV (As := []) (gV_ok D I) (cp_12780_Code_size l hl0 D I P209356 F209357 q196052 q209382 q209383 p209384 p209385 hm209380 he209381) dr_cX13_copy_8 ⟨wr_10_137, wr_1_15, wr_9_131, by decide, rfl, (Nat.le_of_ble_eq_true rfl), (Nat.le_of_ble_eq_true rfl)⟩ wr_9_129 wr_9_130 hm209380 he209381 rfl (rm_zc pk209375) (rm_zs pk209375) (Nat.le_of_ble_eq_true rfl) (fun r209411 w209412 dc209408 ds209409 hp209410 => ?_) (fun _ _ _ _ _ z => z.elim)
      obtain ⟨rfl, rfl, hdc, hds⟩ := hp209410
      change G _ _ _ _ _ _ _ (.int p209385 :: _) _ _ _
      refine G_widen (cs' := ((rPh gm_F209357 el_F209357 f - rPh γ0 el0 f) / 18)) (sl' := (rPh gm_F209357 el_F209357 f - rPh γ0 el0 f)) (rm_d0 hdc) (rm_d0 hds) ?_
      refine G_icmp_ge 117 dr_cX13_copy_11 (by decide +kernel) (fun hc209413 => ?_) (fun hc209413 => ?_)
      · have r209414 : p209385.toInt ≤ g209355.toInt := gC_le hc209413
        have hx209415 : tl_RCode_copy_6 D I γ0 el0 f fo P196049 F196050 q196051 q196052 P196049 F196065 gm_F196065 el_F196065 (0 : Int32) 117 F209357 P209356 gm_F209357 el_F209357 := kt6_209370 117 F209357 P209356 gm_F209357 el_F209357 (fun R c1 c2 => c1 P209356 F209357 gm_F209357 el_F209357 g209355 p209385 bg209355 hT209358 hs209359 x209362 x209363 x209364 x209365 x209366 x209367 x209368 x209369 fq209407 r209414)
        have r209416 := RS_valid hT0 hzq196052 hfo0 x196053
        have r209417 : (g209355.toInt : Int).toNat = γ0 6 fo := by omega
        have kb209418 := x209367
        rw [r209417] at kb209418
        have hv209419 := St_val (f := f) (n := γ0 6 fo) hT209358 ht209371 hf209372 (by omega) x196053 (by omega) (by omega) (by omega) kb209418
        obtain ⟨gm_hg209420, hg209420⟩ : ∃ z, z = gVal gm_F209357 6 f (γ0 6 fo) := ⟨_, rfl⟩
        rw [← hg209420] at hv209419
        have hk209421 := rSk_of hv209419.1
        have r209422 := hv209419.2.1
        have hT209423 := hk209421.1
        have hs209424 := rSk_tr hs209359 hk209421 (by decide) (by decide) (by decide)
        have ht209425 : rKd gm_hg209420 q196051 9 := rSk_k hk209421 ht209371 (by decide) (by decide)
        have hf209426 : gm_hg209420 1 q196051 = f := rSk_1 hk209421 ht209371 (by decide) hf209372
        have ht209427 : rKd gm_hg209420 q196052 9 := rSk_kf hk209421 ht209373 (by decide) (by rw [hf209374]; exact hne)
        have hf209428 : gm_hg209420 1 q196052 = fo := rSk_1 hk209421 ht209373 (by decide) hf209374
        have kb209429 : rKb gm_hg209420 el_F209357 q196051 (g209355.toInt : Int).toNat := rKb_t x209367 hk209421 (by decide) (rSk_s hk209421 ht209371 (by decide)).2.1 (fun _ _ => rfl)
        clear r209390 r209391 r209392 r209393 r209394 r209395 r209397 r209398 r209399 r209400 bp209384 bp209385
        have r209430 := rSk_g hs209424 hne
        have r209431 : 0 < gm_hg209420 6 (gm_hg209420 1 q196052) := by rw [hf209428, r209430.1]; exact x196053
        have r209432 : gm_hg209420 6 fo = γ0 6 fo := r209430.1
        have r209433 : gm_hg209420 7 fo = 0 := by rw [r209430.2.1]; exact x196054
        have hB209434 : rBd gm_hg209420 el_F209357 f B := hv209419.2.2.2 B hB209361
        have hph209435 : rPh γ0 el0 f ≤ rPh gm_hg209420 el_F209357 f := by rw [r209422]; exact hph209360
        have pk209436 : rPh gm_hg209420 el_F209357 f ≤ 387 * B + 6000 := rm_pk (rM_ge hT209423 ht209425 hf209426).1 (rM_bd hB209434)
        refine G_widen (cs' := ((rPh gm_hg209420 el_F209357 f - rPh γ0 el0 f) / 18)) (sl' := (rPh gm_hg209420 el_F209357 f - rPh γ0 el0 f)) (rm_ec r209422) (rm_es r209422) ?_
        have r209437 := gVal_n hg209420
        have r209438 := rsum_m (f := fun i => γ0 2 (γ0 14 (el0 (γ0 14 q196052) i))) _ (show (g209355.toInt : Int).toNat ≤ γ0 6 fo by omega)
        exact G_vretA dr_cX13_copy_117 rfl (show ((rPh gm_hg209420 el_F209357 f - rPh γ0 el0 f) / 18) ≤ (((387 * B + 6000) - rPh γ0 el0 f) / 18) by omega) (show (rPh gm_hg209420 el_F209357 f - rPh γ0 el0 f) ≤ ((387 * B + 6000) - rPh γ0 el0 f) by omega) ⟨P209356, F209357, gm_hg209420, el_F209357, rfl, rfl, hs209424, ⟨by omega, by omega⟩, hB209434, (by omega), (by omega), (by omega), (by omega), (fun R c1 => c1 gm_0 el_0 F196065 gm_F196065 el_F196065 F209357 P209356 gm_F209357 el_F209357 gm_hg209420 hγ0 hel0 hq196067 hx209415 hg209420)⟩
      · have r209439 : g209355.toInt < p209385.toInt := gC_nle hc209413
        have bg209355' : gB g209355 0 999999 := ⟨by omega, by omega⟩
        have bp209385' : gB p209385 1 1000000 := ⟨by omega, by omega⟩
        refine G_aload_n 2 dr_cX13_copy_14 rfl ?_
        refine G_iload_n 0 dr_cX13_copy_15 rfl ?_
        have hm209440 : q209382 ∈ P209356 := RS_m hT209358 ht209386 (by decide)
        obtain ⟨⟨p209442, p209443, q209444, he209441, r209445, r209446, r209447, r209449⟩, r209448⟩ := show rk_4 D I gm_hg209420 el_F209357 F209357 q209382 from RS_o hT209358 ht209386
        have bp209442 := gB_any p209442
        have bp209443 : gB p209443 0 1000000 := ⟨by omega, by omega⟩
        obtain ⟨r209450, r209451, n209458, f209459, r209452, r209453, r209454, r209455, r209456, r209457⟩ := rLC_n r209447 (by omega)
        have hm209460 : q209444 ∈ P209356 := RS_m hT209358 r209450 (by decide)
        obtain ⟨q209461, hx209462⟩ : ∃ x, x = el_F209357 q209382 g209355.toInt.toNat := ⟨_, rfl⟩
        have fq209466 : fR (F209357 q196052) 0 = q209382 := by rw [he209381]; rfl
        have hx209463 : f209459 g209355.toNatClampNeg = some q209461 := (r209456 _ (show g209355.toInt.toNat < gm_hg209420 2 q209382 by first | assumption | omega)).trans (by rw [hx209462])
        have ht209467 : rKd gm_hg209420 q209461 2 := by rw [hx209462]; exact (r209397 _ (by omega)).resolve_right (fun z => absurd z.1 (by omega))
        have ht209468 : rFm gm_hg209420 q209461 q209382 := by rw [hx209462]; exact (r209448 _ (show g209355.toInt.toNat < gm_hg209420 2 q209382 by omega)).2.1
        have hm209469 : q209461 ∈ P209356 := RS_m hT209358 ht209467 (by decide)
        obtain ⟨q209471, q209472, p209473, p209474, he209470, ht209481, ht209475, ht209476, ht209477, ht209478, ht209479, bp209473, bp209474, r209480, r209482, r209483⟩ := show rk_2 gm_hg209420 q209461 (F209357 q209461) from RS_o hT209358 ht209467
        have fq209484 : fI (F209357 q209382) 2 = p209443 := by rw [he209441]; rfl
        refine Gw_callV (As := [.int g209355]) (gV_ok D I) (cp_7901_Code_get l hl0 D I P209356 F209357 q196052 q209382 q209444 g209355 q209383 p209384 p209385 p209442 p209443 f209459 n209458 q209461 q209471 q209472 p209473 p209474 hm209380 hm209440 hm209460 hm209469 he209381 he209441 r209452 he209470 (gB_w bg209355' (by decide) (by decide)) (gB_w bp209443 (by decide) (by decide)) (by omega) (by omega) (by assumption) (by omega)) dr_cX13_copy_16 ⟨wr_10_138, wr_1_15, wr_10_141, by decide, rfl, (Nat.le_of_ble_eq_true rfl), (Nat.le_of_ble_eq_true rfl)⟩ wr_10_139 wr_10_140 hm209380 he209381 rfl (rm_zc pk209375) (rm_zs pk209375) (Nat.le_of_ble_eq_true rfl) (fun r209488 w209489 dc209485 ds209486 hp209487 => ?_) (fun _ _ _ _ _ z => z.elim)
        obtain ⟨rfl, rfl, hdc, hds, ht209490⟩ := hp209487
        change G _ _ _ _ _ _ _ (.ref q209461 :: _) _ _ _
        refine G_widen (cs' := ((rPh gm_hg209420 el_F209357 f - rPh γ0 el0 f) / 18)) (sl' := (rPh gm_hg209420 el_F209357 f - rPh γ0 el0 f)) (rm_d0 hdc) (rm_d0 hds) ?_
        have r209491 := RS_valid hT0 hzq196052 hfo0 x196053
        have r209492 := rSk_o (i := g209355.toInt.toNat) hT0 hs209359 hzq196052 (by rw [hfo0]; exact hne)
        have hx0209493 : q209461 = el0 (γ0 14 q196052) (g209355.toInt : Int).toNat := by rw [hx209462, ← ht209401.1, r209492.1, r209492.2.2.1]
        have hf209494 : gm_hg209420 1 q209461 = fo := (show gm_hg209420 1 q209461 = gm_hg209420 1 q209382 from ht209468).trans ((show gm_hg209420 1 q209382 = gm_hg209420 1 q196052 from ht209387).trans hf209374)
        refine G_astore_n (L' := [(3, .ref q209461), (2, .int g209355), (0, .ref q196051), (1, .ref q196052)]) dr_cX13_copy_19 (Nat.le_of_ble_eq_true rfl) rfl ?_
        refine G_aload_n 2 dr_cX13_copy_20 rfl ?_
        have rg209495 := rM_ge hT209358 ht209371 hf209372
        have rm209496 := rM_bd hB209361
        have bd209497 := rBd_c hT209358 ht209371 hf209372 hB209361
        refine Gt_block (c := q196051) (f := f) hl0 dr_cX13_copy_21 ⟨wr_10_142, wr_1_15, wr_9_156, by decide, rfl, (Nat.le_of_ble_eq_true rfl), (Nat.le_of_ble_eq_true rfl)⟩ wr_9_154 wr_9_155 hT209358 ht209371 hf209372 (by omega) (Nat.le_trans bd209497.2.1 (by decide)) (rm_cs hph209360 rg209495.1 rm209496 (by decide)) (rm_sl hph209360 rg209495.1 rm209496 rm_s25) (Nat.le_of_ble_eq_true rfl) (fun P209498 F209499 gm_F209499 el_F209499 q209500 dc209501 ds209502 hq209503 => ?_)
        have hq209504 := hq209503
        obtain ⟨hk209505, b0209506, b1209507, ⟨jb209508, j1209509, j2209510, j3209511, j4209512, j5209513, j6209514⟩, hz209515, h16209516, h18209517, hnu209518, hot209519, h45209520, ⟨hr1209521, hr2209522⟩, hM209523, hBB209524⟩ := hq209503
        have hk209525 := rSk_of hk209505
        have hT209526 := hk209525.1
        have hs209527 := rSk_tr hs209359 hk209525 (by decide) (by decide) (by decide)
        have ht209528 : rKd gm_F209499 q196051 9 := rSk_k hk209525 ht209371 (by decide) (by decide)
        have hf209529 : gm_F209499 1 q196051 = f := rSk_1 hk209525 ht209371 (by decide) hf209372
        have ht209530 : rKd gm_F209499 q196052 9 := rSk_kf hk209525 ht209373 (by decide) (by rw [hf209374]; exact hne)
        have hf209531 : gm_F209499 1 q196052 = fo := rSk_1 hk209525 ht209373 (by decide) hf209374
        have ht209532 : rKd gm_F209499 q209461 2 := rSk_kf hk209525 ht209467 (by decide) (by rw [hf209494]; exact hne)
        have hf209533 : gm_F209499 1 q209461 = fo := rSk_1 hk209525 ht209467 (by decide) hf209494
        have kb209534 : rKb gm_F209499 el_F209499 q196051 (g209355.toInt : Int).toNat := rKb_t x209367 hk209525 (by decide) (rSk_s hk209525 ht209371 (by decide)).2.1 (fun i hi => j6209514 i (by omega))
        clear r209390 r209391 r209392 r209393 r209394 r209395 r209397 r209398 r209399 r209400 bp209384 bp209385 bp209473 bp209474 r209482 r209483 rg209495 rm209496 bd209497
        clear r209480
        have r209535 := rSk_g hs209527 hne
        have r209536 : 0 < gm_F209499 6 (gm_F209499 1 q196052) := by rw [hf209531, r209535.1]; exact x196053
        have r209537 : gm_F209499 6 fo = γ0 6 fo := r209535.1
        have r209538 : gm_F209499 7 fo = 0 := by rw [r209535.2.1]; exact x196054
        have r209540 := RS_valid hT0 hzq196052 hfo0 x196053
        have r209539 := (rSk_o (i := g209355.toInt.toNat) hT0 hs209527 hzq196052 (by rw [hfo0]; exact hne)).2.2.2 (by omega)
        rw [← hx0209493] at r209539
        have xs209541 : gm_F209499 2 (gm_F209499 14 q209461) = γ0 2 (γ0 14 q209461) := by rw [r209539.1]; exact r209539.2.1
        have hB209542 : rBd gm_F209499 el_F209499 f B := hBB209524 B (by omega) hB209361
        have r209543 := (rSk_s hk209525 ht209371 (by decide)).2.1
        obtain ⟨nu209544, nu209545, nu209546, nu209547⟩ := hnu209518
        have ht209548 : rKd gm_F209499 q209500 202 := b0209506
        have r209549 : (g209355.toInt : Int).toNat = jb209508 := by omega
        have r209550 : (g209355.toInt : Int).toNat < gm_F209499 2 (gm_F209499 14 q196051) := by rw [r209543, r209549]; exact j3209511
        have r209551 : el_F209499 (gm_F209499 14 q196051) (g209355.toInt : Int).toNat = q209500 := by rw [r209543, r209549]; exact j4209512
        have hph209552 : rPh γ0 el0 f ≤ rPh gm_F209499 el_F209499 f := rm_ph hph209360 hr2209522
        have pk209553 : rPh gm_F209499 el_F209499 f ≤ 387 * B + 6000 := rm_pk (rM_ge hT209526 ht209528 hf209529).1 (rM_bd hB209542)
        refine G_widen (cs' := ((rPh gm_F209499 el_F209499 f - rPh γ0 el0 f) / 18)) (sl' := (rPh gm_F209499 el_F209499 f - rPh γ0 el0 f)) (rm_wc hph209360 hr1209521) (rm_ws hph209360 hr2209522) ?_
        refine G_astore (L' := [(4, .ref q209500), (3, .ref q209461), (2, .int g209355), (0, .ref q196051), (1, .ref q196052)]) dr_cX13_copy_24 (Nat.le_of_ble_eq_true rfl) rfl ?_
        refine G_iconst 0 dr_cX13_copy_26 (by decide +kernel) ?_
        refine G_istore (L' := [(5, .int 0), (4, .ref q209500), (3, .ref q209461), (2, .int g209355), (0, .ref q196051), (1, .ref q196052)]) dr_cX13_copy_27 (Nat.le_of_ble_eq_true rfl) rfl ?_
        have hlp29_210020 : ∀ (n29_210020 : Nat) (P209999 : List Nat) (F210000 : Nat → va_E) (gm_F210000 el_F210000 : Nat → Nat → Nat) (g209998 : Int32), gB g209998 0 1000000 → RS D I P209999 F210000 gm_F210000 el_F210000 → rSk f [1, 2, 3, 101, 102, 103, 202] ([1, 2, 3, 4, 5, 6, 7, 8, 9, 101, 102, 103, 202]) D I P196049 F196050 γ0 el0 P209999 F210000 gm_F210000 el_F210000 → rPh γ0 el0 f ≤ rPh gm_F210000 el_F210000 f → rBd gm_F210000 el_F210000 f B → rKd gm_F210000 q209500 202 → gm_F210000 1 q209500 = f → (g209355.toInt : Int).toNat < gm_F210000 2 (gm_F210000 14 q196051) → el_F210000 (gm_F210000 14 q196051) (g209355.toInt : Int).toNat = q209500 → rKd gm_F210000 q209461 2 → gm_F210000 1 q209461 = fo → gm_F210000 6 f = 0 → gm_F210000 19 f = γ0 6 fo → gm_F210000 18 f = 0 → gm_F210000 7 f = 0 → (fI (F210000 q196051) 3).toInt = g209355.toInt + 1 → rKb gm_F210000 el_F210000 q196051 (g209355.toInt : Int).toNat → gm_F210000 16 f ≤ rsum (fun i => γ0 2 (γ0 14 (el0 (γ0 14 q196052) i))) (g209355.toInt : Int).toNat + (g209998.toInt : Int).toNat → (g209355.toInt : Int) < γ0 6 fo → q209461 = el0 (γ0 14 q196052) (g209355.toInt : Int).toNat → (g209998.toInt : Int) ≤ γ0 2 (γ0 14 q209461) → (∀ (k : Nat) (e1 : Nat → va_E) (e2 : List Nat) (e3 : Nat → Nat → Nat) (e4 : Nat → Nat → Nat), tl_RCode_copy_29 D I γ0 el0 f fo P196049 F196050 q196051 g209355 q196052 q209461 q209500 P209999 F210000 gm_F210000 el_F210000 g209998 k e1 e2 e3 e4 → tl_RCode_copy_29 D I γ0 el0 f fo P196049 F196050 q196051 g209355 q196052 q209461 q209500 P209498 F209499 gm_F209499 el_F209499 (0 : Int32) k e1 e2 e3 e4) → (γ0 2 (γ0 14 q209461) - (g209998.toInt : Int).toNat) < n29_210020 → G (gV D I) l (gRm 8 170 (((387 * B + 6000) - rPh γ0 el0 f) / 18) ((387 * B + 6000) - rPh γ0 el0 f)) (gMA (gV D I) (pg_196056_Code_copy D I γ0 el0 f fo B P196049 F196050 q196051 q196052) gNA (((387 * B + 6000) - rPh γ0 el0 f) / 18) ((387 * B + 6000) - rPh γ0 el0 f)) ky_196056_Code_copy 29 [(5, .int g209998), (4, .ref q209500), (3, .ref q209461), (2, .int g209355), (0, .ref q196051), (1, .ref q196052)] [] (va_pl P209999 F210000) ((rPh gm_F210000 el_F210000 f - rPh γ0 el0 f) / 18) (rPh gm_F210000 el_F210000 f - rPh γ0 el0 f) := by
          intro n29_210020
          induction n29_210020 with
          | zero => intro P209999 F210000 gm_F210000 el_F210000 g209998 bg209998 hT210001 hs210002 hph210003 hB210004 ht210005 hf210006 r210007 r210008 ht210009 hf210010 x210011 x210012 x210013 x210014 x210015 x210016 x210017 x210018 x210019 x210020 kt29_210021 hm29_210020; exact absurd hm29_210020 (Nat.not_lt_zero _)
          | succ n29_210020 ih29_210020 =>
            intro P209999 F210000 gm_F210000 el_F210000 g209998 bg209998 hT210001 hs210002 hph210003 hB210004 ht210005 hf210006 r210007 r210008 ht210009 hf210010 x210011 x210012 x210013 x210014 x210015 x210016 x210017 x210018 x210019 x210020 kt29_210021 hm29_210020
            clear r209404 r209405 r209406 r209445 r209446 r209447 r209449 r209448 r209450 r209451 r209452 r209453 r209454 r209455 r209456 r209457 r209491 r209492 j1209509 j2209510 j3209511 j5209513 h16209516 h18209517 hr1209521 hr2209522 hM209523 r209535 r209536 r209537 r209538 r209540 r209539 r209543 nu209544 nu209545 nu209546 nu209547 r209549 r209550 r209551 hph209552 pk209553
            have ht210022 : rKd gm_F210000 q196051 9 := rSk_k hs210002 hzq196051 (by decide) (by decide)
            have hf210023 : gm_F210000 1 q196051 = f := rSk_1 hs210002 hzq196051 (by decide) hf0
            have ht210024 : rKd gm_F210000 q196052 9 := rSk_k hs210002 hzq196052 (by decide) (by decide)
            have hf210025 : gm_F210000 1 q196052 = fo := rSk_1 hs210002 hzq196052 (by decide) hfo0
            have pk210026 : rPh gm_F210000 el_F210000 f ≤ 387 * B + 6000 := rm_pk (rM_ge hT210001 ht210022 hf210023).1 (rM_bd hB210004)
            have r210027 := rSk_g hs210002 hne
            have r210028 : 0 < gm_F210000 6 (gm_F210000 1 q196052) := by rw [hf210025, r210027.1]; exact x196053
            have r210029 : gm_F210000 6 fo = γ0 6 fo := r210027.1
            have r210030 : gm_F210000 7 fo = 0 := by rw [r210027.2.1]; exact x196054
            have r210032 := RS_valid hT0 hzq196052 hfo0 x196053
            have r210031 := (rSk_o (i := g209355.toInt.toNat) hT0 hs210002 hzq196052 (by rw [hfo0]; exact hne)).2.2.2 (by omega)
            rw [← x210019] at r210031
            have xs210033 : gm_F210000 2 (gm_F210000 14 q209461) = γ0 2 (γ0 14 q209461) := by rw [r210031.1]; exact r210031.2.1
            refine G_iload 0 dr_cX13_copy_29 rfl ?_
            refine G_aload_n 2 dr_cX13_copy_31 rfl ?_
            have hm210034 : q209461 ∈ P209999 := RS_m hT210001 ht210009 (by decide)
            obtain ⟨q210036, q210037, p210038, p210039, he210035, ht210046, ht210040, ht210041, ht210042, ht210043, ht210044, bp210038, bp210039, r210045, r210047, r210048⟩ := show rk_2 gm_F210000 q209461 (F210000 q209461) from RS_o hT210001 ht210009
            have hf210049 : gm_F210000 1 q210036 = fo := (show gm_F210000 1 q210036 = gm_F210000 1 q209461 from ht210041).trans hf210010
            have hf210050 : gm_F210000 1 q210037 = fo := (show gm_F210000 1 q210037 = gm_F210000 1 q209461 from ht210043).trans hf210010
            have r210051 : gm_F210000 6 (gm_F210000 1 q209461) = gm_F210000 6 fo := by rw [hf210010]
            have r210052 : gm_F210000 7 (gm_F210000 1 q209461) = gm_F210000 7 fo := by rw [hf210010]
            have r210053 : gm_F210000 19 (gm_F210000 1 q209461) = gm_F210000 19 fo := by rw [hf210010]
            have r210054 := r210045.resolve_left (by omega)
            clear r210045
            have r210055 : gm_F210000 2 (gm_F210000 14 q209461) = gm_F210000 2 q210036 := by rw [ht210046.1]
            have fq210056 : fR (F210000 q209461) 0 = q210036 := by rw [he210035]; rfl
            refine Gp_get 0 hm210034 he210035 dr_cX13_copy_32 (gk_X12 D I) (Nat.le_of_ble_eq_true rfl) wr_9_219 rfl ?_
            have hm210057 : q210036 ∈ P209999 := RS_m hT210001 ht210040 (by decide)
            obtain ⟨⟨p210059, p210060, q210061, he210058, r210062, r210063, r210064, r210066⟩, r210065⟩ := show rk_3 D I gm_F210000 el_F210000 F210000 q210036 from RS_o hT210001 ht210040
            have bp210059 := gB_any p210059
            have bp210060 : gB p210060 0 1000000 := ⟨by omega, by omega⟩
            have fq210067 : p210060.toInt = (gm_F210000 2 q210036 : Int) := by omega
            have fq210068 : fI (F210000 q210036) 2 = p210060 := by rw [he210058]; rfl
            refine Gw_callV (As := []) (gV_ok D I) (cp_7_ArrayList_size l hl0 D I P209999 F210000 q210036 p210059 q210061 p210060 hm210057 he210058 (gB_w bp210060 (by decide) (by decide))) dr_cX13_copy_35 ⟨wr_9_157, wr_1_18, wr_9_160, by decide, rfl, (Nat.le_of_ble_eq_true rfl), (Nat.le_of_ble_eq_true rfl)⟩ wr_9_158 wr_9_159 hm210057 he210058 rfl (rm_zc pk210026) (rm_zs pk210026) (Nat.le_of_ble_eq_true rfl) (fun r210072 w210073 dc210069 ds210070 hp210071 => ?_) (fun _ _ _ _ _ z => z.elim)
            obtain ⟨rfl, rfl, hdc, hds⟩ := hp210071
            change G _ _ _ _ _ _ _ (.int p210060 :: _) _ _ _
            refine G_widen (cs' := ((rPh gm_F210000 el_F210000 f - rPh γ0 el0 f) / 18)) (sl' := (rPh gm_F210000 el_F210000 f - rPh γ0 el0 f)) (rm_d0 hdc) (rm_d0 hds) ?_
            refine G_icmp_ge 81 dr_cX13_copy_38 (by decide +kernel) (fun hc210074 => ?_) (fun hc210074 => ?_)
            · have r210075 : p210060.toInt ≤ g209998.toInt := gC_le hc210074
              have hx210076 : tl_RCode_copy_29 D I γ0 el0 f fo P196049 F196050 q196051 g209355 q196052 q209461 q209500 P209498 F209499 gm_F209499 el_F209499 (0 : Int32) 81 F210000 P209999 gm_F210000 el_F210000 := kt29_210021 81 F210000 P209999 gm_F210000 el_F210000 (fun R c1 c2 => c1 P209999 F210000 gm_F210000 el_F210000 g209998 q210036 p210060 bg209998 hT210001 hs210002 x210011 x210012 x210013 x210014 x210015 x210016 x210017 x210018 x210019 x210020 fq210056 fq210067 fq210068 r210075)
              refine G_aload 1 dr_cX13_copy_81 rfl ?_
              have hm210077 : q209500 ∈ P209999 := RS_m hT210001 ht210005 (by decide)
              obtain ⟨q210079, q210080, p210081, p210082, he210078, ht210088, ht210083, ht210084, ht210085, ht210086, ht210087, bp210081, bp210082⟩ := show rk_202 gm_F210000 q209500 (F210000 q209500) from RS_o hT210001 ht210005
              have hf210089 : gm_F210000 1 q210079 = f := (show gm_F210000 1 q210079 = gm_F210000 1 q209500 from ht210084).trans hf210006
              have hf210090 : gm_F210000 1 q210080 = f := (show gm_F210000 1 q210080 = gm_F210000 1 q209500 from ht210086).trans hf210006
              have r210091 : gm_F210000 6 (gm_F210000 1 q209500) = gm_F210000 6 f := by rw [hf210006]
              have r210092 : gm_F210000 7 (gm_F210000 1 q209500) = gm_F210000 7 f := by rw [hf210006]
              have r210093 : gm_F210000 19 (gm_F210000 1 q209500) = gm_F210000 19 f := by rw [hf210006]
              have r210094 : gm_F210000 2 (gm_F210000 14 q209500) = gm_F210000 2 q210079 := by rw [ht210088.1]
              have fq210095 : fR (F210000 q209500) 1 = q210080 := by rw [he210078]; rfl
              refine Gp_get 1 hm210077 he210078 dr_cX13_copy_83 (gk_X12 D I) (Nat.le_of_ble_eq_true rfl) wr_9_224 rfl ?_
              refine G_aload_n 2 dr_cX13_copy_86 rfl ?_
              have fq210096 : fR (F210000 q209461) 1 = q210037 := by rw [he210035]; rfl
              refine Gp_get 1 hm210034 he210035 dr_cX13_copy_87 (gk_X12 D I) (Nat.le_of_ble_eq_true rfl) wr_9_224 rfl ?_
              have hm210097 : q210080 ∈ P209999 := RS_m hT210001 ht210085 (by decide)
              obtain ⟨p210099, p210100, p210101, p210102, p210103, p210104, p210105, he210098, bp210099, bp210100, bp210103, bp210104, bp210105, r210106, r210107, r210108⟩ := show rkR (F210000 q210080) from RS_o hT210001 ht210085
              have bp210101 := gB_any p210101
              have bp210102 := gB_any p210102
              have r210109 : gm_F210000 7 (gm_F210000 1 q210080) = gm_F210000 7 f := by rw [hf210090]
              have hm210110 : q210037 ∈ P209999 := RS_m hT210001 ht210042 (by decide)
              obtain ⟨p210112, p210113, p210114, p210115, p210116, p210117, p210118, he210111, bp210112, bp210113, bp210116, bp210117, bp210118, r210119, r210120, r210121, r210122, r210123⟩ := show rk_1 gm_F210000 q210037 (F210000 q210037) from RS_o hT210001 ht210042
              have bp210114 := gB_any p210114
              have bp210115 := gB_any p210115
              have r210124 : gm_F210000 7 (gm_F210000 1 q210037) = gm_F210000 7 fo := by rw [hf210050]
              have fq210125 : fI (F210000 q210037) 0 = p210112 := by rw [he210111]; rfl
              have fq210126 : fI (F210000 q210037) 1 = p210113 := by rw [he210111]; rfl
              have fq210127 : fI (F210000 q210037) 2 = p210114 := by rw [he210111]; rfl
              have fq210128 : fI (F210000 q210037) 3 = p210115 := by rw [he210111]; rfl
              have fq210129 : fI (F210000 q210037) 4 = p210116 := by rw [he210111]; rfl
              have fq210130 : fI (F210000 q210037) 5 = p210117 := by rw [he210111]; rfl
              have fq210131 : fI (F210000 q210037) 6 = p210118 := by rw [he210111]; rfl
              refine Gw_callV (As := [.ref q210037]) (gV_ok D I) (cp_1728_Row_put l hl0 D I P209999 F210000 q210080 q210037 p210099 p210100 p210101 p210102 p210103 p210104 p210105 p210112 p210113 p210114 p210115 p210116 p210117 p210118 hm210097 hm210110 he210098 he210111 (rn_ty ht210085 ht210042 (by decide)) bp210099 bp210100 bp210103 bp210104 bp210105 bp210112 bp210113 bp210116 bp210117 bp210118) dr_cX13_copy_90 ⟨wr_10_144, wr_1_39, wr_10_147, by decide, rfl, (Nat.le_of_ble_eq_true rfl), (Nat.le_of_ble_eq_true rfl)⟩ wr_10_145 wr_10_146 hm210097 he210098 rfl (rm_zc pk210026) (rm_zs pk210026) (Nat.le_of_ble_eq_true rfl) (fun r210135 w210136 dc210132 ds210133 hp210134 => ?_) (fun _ _ _ _ _ z => z.elim)
              obtain ⟨F210137, rfl, rfl, hfr210139, he210140, he210141, hdc, hds⟩ := hp210134
              have he210142 : F210137 q209461 = .inr (17, [.ref q210036, .ref q210037, .int p210038, .int p210039]) := (hfr210139 q209461 hm210034 (nm_c (rn_oo he210035 he210098 (by decide)) nm_n)).trans he210035
              have he210143 : F210137 q210036 = .inr (4, [.int p210059, .ref q210061, .int p210060]) := (hfr210139 q210036 hm210057 (nm_c (rn_oo he210058 he210098 (by decide)) nm_n)).trans he210058
              have he210144 : F210137 q209500 = .inr (17, [.ref q210079, .ref q210080, .int p210081, .int p210082]) := (hfr210139 q209500 hm210077 (nm_c (rn_oo he210078 he210098 (by decide)) nm_n)).trans he210078
              have hfr210145 : rFr [q210080] P209999 F210000 F210137 := rFr_call (rSub_rf (P := P209999)) (rFr_rf (W := []) (P := P209999) (F := F210000)) hfr210139 (fun b hb hn => ⟨nm_n, (nm_c (fun e => hn (e ▸ List.mem_cons_self)) nm_n)⟩)
              change G _ _ _ _ _ _ _ _ _ _ _
              refine G_widen (cs' := ((rPh gm_F210000 el_F210000 f - rPh γ0 el0 f) / 18)) (sl' := (rPh gm_F210000 el_F210000 f - rPh γ0 el0 f)) (rm_d0 hdc) (rm_d0 hds) ?_
              have hT210146 : RS D I P209999 F210137 gm_F210000 el := RS_fr hT210001 hfr210145 ht210085 (by decide) ⟨p210112, p210113, p210114, p210115, p210116, p210117, p210118, he210140, bp210112, bp210113, bp210116, bp210117, bp210118, r210119, r210120, r210121⟩
              have hs210147 := rSk_fr hs210002 hT210146 hfr210145 ht210085 (by decide) (by decide)
              have md210148 : (fI (F210137 q196051) 3).toInt = (fI (F210000 q196051) 3).toInt := by rw [hfr210145 q196051 (RS_m hT210001 ht210022 (by decide)) (nm_c (rn_ty ht210022 ht210085 (by decide)) nm_n)]
              refine G_aload 1 dr_cX13_copy_93 rfl ?_
              refine G_aload_n 2 dr_cX13_copy_95 rfl ?_
              have fq210149 : fI (F210137 q209461) 2 = p210038 := by rw [he210142]; rfl
              refine Gp_get 2 hm210034 he210142 dr_cX13_copy_96 (gk_X12 D I) (Nat.le_of_ble_eq_true rfl) wr_9_227 rfl ?_
              refine Gp_put 2 hm210077 he210144 dr_cX13_copy_99 (gk_X12 D I) (Nat.le_of_ble_eq_true rfl) wr_9_227 rfl rfl rfl (Nat.le_of_ble_eq_true rfl) (fun F210150 e210151 n210152 => ?_)
              have he210153 : F210150 q209461 = .inr (17, [.ref q210036, .ref q210037, .int p210038, .int p210039]) := (n210152 q209461 (rn_ty ht210009 ht210005 (by decide))).trans he210142
              have he210154 : F210150 q210036 = .inr (4, [.int p210059, .ref q210061, .int p210060]) := (n210152 q210036 (rn_oo he210143 he210144 (by decide))).trans he210143
              have he210155 : F210150 q210080 = .inr (20, [.int p210112, .int p210113, .int p210114, .int p210115, .int p210116, .int p210117, .int p210118]) := (n210152 q210080 (rn_oo he210140 he210144 (by decide))).trans he210140
              have he210156 : F210150 q210037 = .inr (20, [.int p210112, .int p210113, .int p210114, .int p210115, .int p210116, .int p210117, .int p210118]) := (n210152 q210037 (rn_oo he210141 he210144 (by decide))).trans he210141
              have he210157 : F210150 q209500 = .inr (17, [.ref q210079, .ref q210080, .int p210038, .int p210082]) := e210151
              have fq210158 : F210150 q209500 = cF (F210137 q209500) 2 (.int p210038) := by rw [he210157, he210144]; rfl
              refine G_aload 1 dr_cX13_copy_102 rfl ?_
              refine G_aload_n 2 dr_cX13_copy_104 rfl ?_
              have fq210159 : fI (F210150 q209461) 3 = p210039 := by rw [he210153]; rfl
              refine Gp_get 3 hm210034 he210153 dr_cX13_copy_105 (gk_X12 D I) (Nat.le_of_ble_eq_true rfl) wr_9_231 rfl ?_
              refine Gp_put 3 hm210077 he210157 dr_cX13_copy_108 (gk_X12 D I) (Nat.le_of_ble_eq_true rfl) wr_9_231 rfl rfl rfl (Nat.le_of_ble_eq_true rfl) (fun F210160 e210161 n210162 => ?_)
              have he210163 : F210160 q209461 = .inr (17, [.ref q210036, .ref q210037, .int p210038, .int p210039]) := (n210162 q209461 (rn_ty ht210009 ht210005 (by decide))).trans he210153
              have he210164 : F210160 q210036 = .inr (4, [.int p210059, .ref q210061, .int p210060]) := (n210162 q210036 (rn_oo he210154 he210157 (by decide))).trans he210154
              have he210165 : F210160 q210080 = .inr (20, [.int p210112, .int p210113, .int p210114, .int p210115, .int p210116, .int p210117, .int p210118]) := (n210162 q210080 (rn_oo he210155 he210157 (by decide))).trans he210155
              have he210166 : F210160 q210037 = .inr (20, [.int p210112, .int p210113, .int p210114, .int p210115, .int p210116, .int p210117, .int p210118]) := (n210162 q210037 (rn_oo he210156 he210157 (by decide))).trans he210156
              have he210167 : F210160 q209500 = .inr (17, [.ref q210079, .ref q210080, .int p210038, .int p210039]) := e210161
              have n210168 : ∀ b, b ≠ q209500 → F210160 b = F210137 b := fun b hb => (n210162 b hb).trans (n210152 b hb)
              have fq210169 : F210160 q209500 = cF (F210150 q209500) 3 (.int p210039) := by rw [he210167, he210157]; rfl
              have hT210170 : RS D I P209999 F210160 gm_F210000 el := RS_set hT210146 n210168 ht210005 (by decide) ⟨q210079, q210080, p210038, p210039, he210167, ht210088, ht210083, ht210084, ht210085, ht210086, ht210087, bp210038, bp210039⟩
              have hs210171 := rSk_put hs210147 hT210170 n210168 ht210005 (by decide) (by decide)
              have md210172 : (fI (F210160 q196051) 3).toInt = (fI (F210137 q196051) 3).toInt := by rw [n210168 q196051 (rn_ty ht210022 ht210005 (by decide))]
              have hx210173 : rk_1 gm_F210000 q210080 (F210160 q210080) := ⟨p210112, p210113, p210114, p210115, p210116, p210117, p210118, he210165, bp210112, bp210113, bp210116, bp210117, bp210118, r210119, r210120, r210121, (Or.inl (r210122.resolve_right (by omega))), (Or.inr (r210123.resolve_left (fun z => absurd (ht210044.2.symm.trans z) (by decide))))⟩
              have hv210174 := St_seal (f := f) hT210170 ht210005 hf210006 he210167 ht210022 hf210023 (by omega) (by omega) (by omega) hx210173
              have hv210174 := And.intro hv210174 (gSea_ph (γ := gm_F210000) (el := el_F210000) (f := f) (b := q209500) (n := q210080))
              obtain ⟨gm_hg210175, hg210175⟩ : ∃ z, z = gSea gm_F210000 q209500 q210080 := ⟨_, rfl⟩
              have fq210176 : fR (F210160 q209500) 1 = q210080 := by rw [he210167]; rfl
              rw [← hg210175] at hv210174
              have hk210177 := rSk_of hv210174.1
              have r210178 := hv210174.2.1
              have hT210179 := hk210177.1
              have hs210180 := rSk_tr hs210171 hk210177 (by decide) (by decide) (by decide)
              have ht210181 : rKd gm_hg210175 q196051 9 := rSk_k hk210177 ht210022 (by decide) (by decide)
              have hf210182 : gm_hg210175 1 q196051 = f := rSk_1 hk210177 ht210022 (by decide) hf210023
              have ht210183 : rKd gm_hg210175 q196052 9 := rSk_kf hk210177 ht210024 (by decide) (by rw [hf210025]; exact hne)
              have hf210184 : gm_hg210175 1 q196052 = fo := rSk_1 hk210177 ht210024 (by decide) hf210025
              have ht210185 : rKd gm_hg210175 q209461 2 := rSk_kf hk210177 ht210009 (by decide) (by rw [hf210010]; exact hne)
              have hf210186 : gm_hg210175 1 q209461 = fo := rSk_1 hk210177 ht210009 (by decide) hf210010
              have ht210187 : rKd gm_hg210175 q210036 3 := rSk_kf hk210177 ht210040 (by decide) (by rw [hf210049]; exact hne)
              have hf210188 : gm_hg210175 1 q210036 = fo := rSk_1 hk210177 ht210040 (by decide) hf210049
              have ht210189 : rKd gm_hg210175 q210079 3 := rSk_k hk210177 ht210083 (by decide) (by decide)
              have hf210190 : gm_hg210175 1 q210079 = f := rSk_1 hk210177 ht210083 (by decide) hf210089
              have kb210191 : rKb gm_hg210175 el_F210000 q196051 (g209355.toInt : Int).toNat := rKb_t x210016 hk210177 (by decide) (rSk_s hk210177 ht210022 (by decide)).2.1 (fun _ _ => rfl)
              clear bp210038 bp210039 r210047 r210048 bp210081 bp210082 bp210099 bp210100 bp210103 bp210104 bp210105 bp210101 bp210102 bp210112 bp210113 bp210116 bp210117 bp210118 bp210114 bp210115
              clear r210106 r210107 r210108 r210119 r210120 r210121 r210122 r210123
              have r210192 := rSk_g hs210180 hne
              have r210193 : 0 < gm_hg210175 6 (gm_hg210175 1 q196052) := by rw [hf210184, r210192.1]; exact x196053
              have r210194 : gm_hg210175 6 fo = γ0 6 fo := r210192.1
              have r210195 : gm_hg210175 7 fo = 0 := by rw [r210192.2.1]; exact x196054
              have r210197 := RS_valid hT0 hzq196052 hfo0 x196053
              have r210196 := (rSk_o (i := g209355.toInt.toNat) hT0 hs210180 hzq196052 (by rw [hfo0]; exact hne)).2.2.2 (by omega)
              rw [← x210019] at r210196
              have xs210198 : gm_hg210175 2 (gm_hg210175 14 q209461) = γ0 2 (γ0 14 q209461) := by rw [r210196.1]; exact r210196.2.1
              have hB210199 : rBd gm_hg210175 el_F210000 f B := hv210174.2.2.2 B hB210004
              have hph210200 : rPh γ0 el0 f ≤ rPh gm_hg210175 el_F210000 f := by rw [r210178]; exact hph210003
              have pk210201 : rPh gm_hg210175 el_F210000 f ≤ 387 * B + 6000 := rm_pk (rM_ge hT210179 ht210181 hf210182).1 (rM_bd hB210199)
              refine G_widen (cs' := ((rPh gm_hg210175 el_F210000 f - rPh γ0 el0 f) / 18)) (sl' := (rPh gm_hg210175 el_F210000 f - rPh γ0 el0 f)) (rm_ec r210178) (rm_es r210178) ?_
              have r210202 := gSea_n hg210175 f
              have kb210203 : rKb gm_hg210175 el_F210000 q196051 (g209355.toInt + 1 : Int).toNat := rKb_s kb210191 (by omega) (by rw [(rSk_s hk210177 ht210022 (by decide)).2.1, r210008, hg210175]; exact if_pos rfl)
              obtain ⟨z210204, hz210204⟩ : ∃ z : Int32, z = g209355 + Int32.ofInt 1 := ⟨_, rfl⟩
              have ez210204 : z210204.toInt = g209355.toInt + 1 := gI_inc hz210204 (by decide) bg209355' (by decide) (by decide)
              have bz210204 : gB z210204 1 1000000 := ⟨by omega, by omega⟩
              refine G_iinc (L' := [(2, .int z210204), (5, .int g209998), (4, .ref q209500), (3, .ref q209461), (0, .ref q196051), (1, .ref q196052)]) z210204 3 dr_cX13_copy_111 rfl hz210204.symm (Nat.le_of_ble_eq_true rfl) rfl ?_
              refine G_goto 6 dr_cX13_copy_114 (by decide +kernel) ?_
              refine G_lv (L' := [(2, .int z210204), (0, .ref q196051), (1, .ref q196052)]) [0, 4, 5] rfl ?_
              have rs210205 : rsum (fun i => γ0 2 (γ0 14 (el0 (γ0 14 q196052) i))) z210204.toInt.toNat = rsum (fun i => γ0 2 (γ0 14 (el0 (γ0 14 q196052) i))) g209355.toInt.toNat + γ0 2 (γ0 14 (el0 (γ0 14 q196052) g209355.toInt.toNat)) := rsum_1 (by omega) (by omega)
              rw [← x210019] at rs210205
              exact ih6_209369 P209999 F210160 gm_hg210175 el_F210000 z210204 (gB_w bz210204 (by decide) (by decide)) hT210179 hs210180 hph210200 hB210199 (by omega) (by omega) (by omega) (by omega) (by omega) (by rw [show z210204.toInt.toNat = (g209355.toInt + 1 : Int).toNat by omega]; exact kb210203) (by omega) (by omega) (fun k e1 e2 e3 e4 ht => kt6_209370 k e1 e2 e3 e4 (fun R c1 c2 => c2 P209356 F209357 gm_F209357 el_F209357 g209355 p209385 q209382 q209461 p209443 P209498 F209499 gm_F209499 el_F209499 q209500 dc209501 ds209502 F210000 P209999 gm_F210000 el_F210000 q210080 q210037 p210112 p210113 p210114 p210115 p210116 p210117 p210118 F210137 p210038 F210150 p210039 F210160 gm_hg210175 z210204 k e1 e2 e3 e4 bg209355 hT209358 hs209359 x209362 x209363 x209364 x209365 x209366 x209367 x209368 x209369 fq209407 r209439 fq209466 hx209462 fq209484 ht209490 hq209504 hx210076 fq210095 fq210096 fq210125 fq210126 fq210127 fq210128 fq210129 fq210130 fq210131 hfr210145 he210140 fq210149 n210152 fq210158 fq210159 n210162 fq210169 fq210176 hg210175 ez210204 (ht R c1 c2))) (rm_m1 ez210204 bg209355'.1 x210018 hm6_209369)
            · have r210206 : g209998.toInt < p210060.toInt := gC_nle hc210074
              have bg209998' : gB g209998 0 999999 := ⟨by omega, by omega⟩
              have bp210060' : gB p210060 1 1000000 := ⟨by omega, by omega⟩
              have jl210207 : (g209998.toInt : Int) < γ0 2 (γ0 14 q209461) := by omega
              refine G_aload_n 4 dr_cX13_copy_41 rfl ?_
              have r210208 := (RS_valid hT0 hzq196052 hfo0 x196053).2.2.2.2
              have r210209 : rsum (fun i => γ0 2 (γ0 14 (el0 (γ0 14 q196052) i))) (g209355.toInt + 1).toNat = rsum (fun i => γ0 2 (γ0 14 (el0 (γ0 14 q196052) i))) g209355.toInt.toNat + γ0 2 (γ0 14 (el0 (γ0 14 q196052) g209355.toInt.toNat)) := rsum_1 rfl bg209355'.1
              rw [← x210019] at r210209
              have r210210 : rsum (fun i => γ0 2 (γ0 14 (el0 (γ0 14 q196052) i))) (g209355.toInt + 1).toNat ≤ rsum (fun i => γ0 2 (γ0 14 (el0 (γ0 14 q196052) i))) (γ0 6 fo) := rsum_m _ (rm_tn x210018)
              have r210212 : gm_hg210175 16 f + 1 ≤ B := by omega
              have rg210213 := rM_ge hT210001 ht210022 hf210023
              have rm210214 := rM_bd hB210004
              have bd210215 := rBd_c hT210001 ht210022 hf210023 hB210004
              have rc210216 := rc_at hT210001 ht210022 hf210023
              obtain ⟨q210223, hl210224⟩ : ∃ z, z = gm_hg210175 14 q209500 := ⟨_, rfl⟩
              have hl210225 : gm_hg210175 0 q210223 = 3 ∨ gm_hg210175 0 q210223 = 103 := by rw [hl210224, ← r210008]; exact (RS_lst hT210001 rc210216.2.1 r210007).1
              refine Gt_row (c := q196051) (f := f) hl0 dr_cX13_copy_42 ⟨wr_10_143, wr_1_15, wr_10_82, by decide, rfl, (Nat.le_of_ble_eq_true rfl), (Nat.le_of_ble_eq_true rfl)⟩ wr_10_80 wr_10_81 hT210001 ht210022 hf210023 (Nat.le_trans bd210215.2.2.1 (Nat.le_trans hBk (by decide))) (rm_cs hph210003 rg210213.2.1 rm210214 (by decide)) (rm_sl hph210003 rg210213.2.1 rm210214 rm_s18) (Nat.le_of_ble_eq_true rfl) (fun P210217 F210218 gm_F210218 el_F210218 q210219 dc210220 ds210221 hq210222 => ?_)
              have hq210226 := hq210222
              obtain ⟨hk210227, x0210228, x1210229, x22210230, x8210231, h16210232, h18210233, hnu210234, hot210235, h45210236, hf0210237, ⟨hr1210238, hr2210239⟩, hM210240, hBB210241⟩ := hq210222
              have hk210242 := rSk_of hk210227
              have hT210243 := hk210242.1
              have hs210244 := rSk_tr hs210002 hk210242 (by decide) (by decide) (by decide)
              have ht210245 : rKd gm_F210218 q196051 9 := rSk_k hk210242 ht210022 (by decide) (by decide)
              have hf210246 : gm_F210218 1 q196051 = f := rSk_1 hk210242 ht210022 (by decide) hf210023
              have ht210247 : rKd gm_F210218 q196052 9 := rSk_kf hk210242 ht210024 (by decide) (by rw [hf210025]; exact hne)
              have hf210248 : gm_F210218 1 q196052 = fo := rSk_1 hk210242 ht210024 (by decide) hf210025
              have ht210249 : rKd gm_F210218 q209500 202 := rSk_k hk210242 ht210005 (by decide) (by decide)
              have hf210250 : gm_F210218 1 q209500 = f := rSk_1 hk210242 ht210005 (by decide) hf210006
              have ht210251 : rKd gm_F210218 q209461 2 := rSk_kf hk210242 ht210009 (by decide) (by rw [hf210010]; exact hne)
              have hf210252 : gm_F210218 1 q209461 = fo := rSk_1 hk210242 ht210009 (by decide) hf210010
              have ht210253 : rKd gm_F210218 q210036 3 := rSk_kf hk210242 ht210040 (by decide) (by rw [hf210049]; exact hne)
              have hf210254 : gm_F210218 1 q210036 = fo := rSk_1 hk210242 ht210040 (by decide) hf210049
              have r210255 := (rSk_s hk210242 ht210022 (by decide)).2.1
              have r210256 := hot210235 _ (by rw [rc210216.2.1]; decide) (by rw [rc210216.2.1]; decide)
              have r210257 : (g209355.toInt : Int).toNat < gm_F210218 2 (gm_F210218 14 q196051) := by rw [r210255, r210256.1]; exact r210007
              have r210258 : el_F210218 (gm_F210218 14 q196051) (g209355.toInt : Int).toNat = q209500 := by rw [r210255, r210256.2]; exact r210008
              have kb210259 : rKb gm_F210218 el_F210218 q196051 (g209355.toInt : Int).toNat := rKb_t x210016 hk210242 (by decide) r210255 (fun i _ => by rw [r210256.2])
              clear bp210038 bp210039 r210047 r210048 rg210213 rm210214 bd210215 rc210216
              have r210260 := rSk_g hs210244 hne
              have r210261 : 0 < gm_F210218 6 (gm_F210218 1 q196052) := by rw [hf210248, r210260.1]; exact x196053
              have r210262 : gm_F210218 6 fo = γ0 6 fo := r210260.1
              have r210263 : gm_F210218 7 fo = 0 := by rw [r210260.2.1]; exact x196054
              have r210265 := RS_valid hT0 hzq196052 hfo0 x196053
              have r210264 := (rSk_o (i := g209355.toInt.toNat) hT0 hs210244 hzq196052 (by rw [hfo0]; exact hne)).2.2.2 (by omega)
              rw [← x210019] at r210264
              have xs210266 : gm_F210218 2 (gm_F210218 14 q209461) = γ0 2 (γ0 14 q209461) := by rw [r210264.1]; exact r210264.2.1
              have sz210267 := (rSk_s hk210242 ht210005 (by decide)).2.1
              have sz210268 := congrArg (gm_F210218 2) sz210267
              have sz210269 := (hot210235 q210223 (by omega) (by omega)).1
              rw [hl210224] at sz210269
              clear hl210225
              have sz210270 := (hot210235 q210036 (rT0 ht210040 (by decide)) (by rw [show _ = 3 from ht210040]; decide)).1
              obtain ⟨nu210271, nu210272, nu210273, nu210274⟩ := hnu210234
              have r210275 := hf0210237.2.2
              have hB210276 : rBd gm_F210218 el_F210218 f B := hBB210241 B r210212 hB210004
              have ht210277 : rKd gm_F210218 q210219 101 := x0210228
              have r210278 : gm_F210218 8 q210219 < gm_F210218 16 f := rm_x8 x8210231 h16210232 rfl
              have hph210279 : rPh γ0 el0 f ≤ rPh gm_F210218 el_F210218 f := rm_ph hph210003 hr2210239
              have pk210280 : rPh gm_F210218 el_F210218 f ≤ 387 * B + 6000 := rm_pk (rM_ge hT210243 ht210245 hf210246).1 (rM_bd hB210276)
              have hm210281 : q210219 ∈ P210217 := RS_m hT210243 ht210277 (by decide)
              obtain ⟨p210283, p210284, p210285, p210286, p210287, p210288, p210289, he210282, bp210283, bp210284, bp210287, bp210288, bp210289, r210290, r210291, r210292⟩ := show rkR (F210218 q210219) from RS_o hT210243 ht210277
              have bp210285 := gB_any p210285
              have bp210286 := gB_any p210286
              have r210293 : gm_F210218 7 (gm_F210218 1 q210219) = gm_F210218 7 f := by rw [x1210229]
              have r210294 : p210288.toInt = 0 := by have z := hf0210237.1; rw [he210282] at z; exact z
              have bp210288' : gB p210288 0 0 := ⟨by omega, by omega⟩
              have r210295 : p210289.toInt = 0 := by have z := hf0210237.2.1; rw [he210282] at z; exact z
              have bp210289' : gB p210289 0 0 := ⟨by omega, by omega⟩
              refine G_widen (cs' := ((rPh gm_F210218 el_F210218 f - rPh γ0 el0 f) / 18)) (sl' := (rPh gm_F210218 el_F210218 f - rPh γ0 el0 f)) (rm_wc hph210003 hr1210238) (rm_ws hph210003 hr2210239) ?_
              refine G_astore (L' := [(6, .ref q210219), (5, .int g209998), (4, .ref q209500), (3, .ref q209461), (2, .int g209355), (0, .ref q196051), (1, .ref q196052)]) dr_cX13_copy_45 (Nat.le_of_ble_eq_true rfl) rfl ?_
              refine G_aload 0 dr_cX13_copy_47 rfl ?_
              refine G_aload_n 3 dr_cX13_copy_49 rfl ?_
              have hm210296 : q209461 ∈ P210217 := RS_m hT210243 ht210251 (by decide)
              obtain ⟨q210298, q210299, p210300, p210301, he210297, ht210308, ht210302, ht210303, ht210304, ht210305, ht210306, bp210300, bp210301, r210307, r210309, r210310⟩ := show rk_2 gm_F210218 q209461 (F210218 q209461) from RS_o hT210243 ht210251
              have hf210311 : gm_F210218 1 q210298 = fo := (show gm_F210218 1 q210298 = gm_F210218 1 q209461 from ht210303).trans hf210252
              have hf210312 : gm_F210218 1 q210299 = fo := (show gm_F210218 1 q210299 = gm_F210218 1 q209461 from ht210305).trans hf210252
              have r210313 : gm_F210218 6 (gm_F210218 1 q209461) = gm_F210218 6 fo := by rw [hf210252]
              have r210314 : gm_F210218 7 (gm_F210218 1 q209461) = gm_F210218 7 fo := by rw [hf210252]
              have r210315 : gm_F210218 19 (gm_F210218 1 q209461) = gm_F210218 19 fo := by rw [hf210252]
              have r210316 := r210307.resolve_left (by omega)
              clear r210307
              have r210317 : gm_F210218 2 (gm_F210218 14 q209461) = gm_F210218 2 q210298 := by rw [ht210308.1]
              have fq210318 : fR (F210218 q209461) 0 = q210298 := by rw [he210297]; rfl
              refine Gp_get 0 hm210296 he210297 dr_cX13_copy_50 (gk_X12 D I) (Nat.le_of_ble_eq_true rfl) wr_9_219 rfl ?_
              have jl210319 : g209998.toInt.toNat < gm_F210218 2 q210298 := rm_ix bg209998'.1 jl210207 xs210266 (by rw [ht210308.1])
              refine G_iload 1 dr_cX13_copy_53 rfl ?_
              have hm210320 : q210298 ∈ P210217 := RS_m hT210243 ht210302 (by decide)
              obtain ⟨⟨p210322, p210323, q210324, he210321, r210325, r210326, r210327, r210329⟩, r210328⟩ := show rk_3 D I gm_F210218 el_F210218 F210218 q210298 from RS_o hT210243 ht210302
              have bp210322 := gB_any p210322
              have bp210323 : gB p210323 0 1000000 := ⟨by omega, by omega⟩
              obtain ⟨r210330, r210331, n210338, f210339, r210332, r210333, r210334, r210335, r210336, r210337⟩ := rLC_n r210327 (by omega)
              have hm210340 : q210324 ∈ P210217 := RS_m hT210243 r210330 (by decide)
              obtain ⟨q210341, hx210342⟩ : ∃ x, x = el_F210218 q210298 g209998.toInt.toNat := ⟨_, rfl⟩
              have hx210343 : f210339 g209998.toNatClampNeg = some q210341 := (r210336 _ (show g209998.toInt.toNat < gm_F210218 2 q210298 by first | assumption | omega)).trans (by rw [hx210342])
              have ht210344 : rKd gm_F210218 q210341 1 := by rw [hx210342]; exact (r210328 _ (show g209998.toInt.toNat < gm_F210218 2 q210298 by first | assumption | omega)).1
              have ht210345 : rFm gm_F210218 q210341 q210298 := by rw [hx210342]; exact (r210328 _ (show g209998.toInt.toNat < gm_F210218 2 q210298 by first | assumption | omega)).2.1
              have hf210346 : gm_F210218 1 q210341 = fo := (show gm_F210218 1 q210341 = gm_F210218 1 q210298 from ht210345).trans hf210311
              have fq210347 : fI (F210218 q210298) 2 = p210323 := by rw [he210321]; rfl
              refine Gw_callV (As := [.int g209998]) (gV_ok D I) (cp_22_ArrayList_get l hl0 D I P210217 F210218 q210298 q210324 g209998 p210322 p210323 f210339 n210338 q210341 hm210320 hm210340 he210321 r210332 (gB_w bg209998' (by decide) (by decide)) (gB_w bp210323 (by decide) (by decide)) (by omega) (by omega) (by assumption) (by omega)) dr_cX13_copy_55 ⟨wr_10_62, wr_1_18, wr_10_65, by decide, rfl, (Nat.le_of_ble_eq_true rfl), (Nat.le_of_ble_eq_true rfl)⟩ wr_10_63 wr_10_64 hm210320 he210321 rfl (rm_zc pk210280) (rm_zs pk210280) (Nat.le_of_ble_eq_true rfl) (fun r210351 w210352 dc210348 ds210349 hp210350 => ?_) (fun _ _ _ _ _ z => z.elim)
              obtain ⟨rfl, rfl, hdc, hds, ht210353⟩ := hp210350
              change G _ _ _ _ _ _ _ (.ref q210341 :: _) _ _ _
              refine G_widen (cs' := ((rPh gm_F210218 el_F210218 f - rPh γ0 el0 f) / 18)) (sl' := (rPh gm_F210218 el_F210218 f - rPh γ0 el0 f)) (rm_d0 hdc) (rm_d0 hds) ?_
              have hm210354 : q210341 ∈ P210217 := RS_m hT210243 ht210344 (by decide)
              obtain ⟨p210356, p210357, p210358, p210359, p210360, p210361, p210362, he210355, bp210356, bp210357, bp210360, bp210361, bp210362, r210363, r210364, r210365, r210366, r210367⟩ := show rk_1 gm_F210218 q210341 (F210218 q210341) from RS_o hT210243 ht210344
              have bp210358 := gB_any p210358
              have bp210359 := gB_any p210359
              have r210368 : gm_F210218 7 (gm_F210218 1 q210341) = gm_F210218 7 fo := by rw [hf210346]
              refine Gp_cast hm210354 he210355 rfl dr_cX13_copy_58 wr_10_83 (gr_cast 1 rfl) ?_
              have fq210369 : fI (F210218 q210341) 0 = p210356 := by rw [he210355]; rfl
              have fq210370 : fI (F210218 q210341) 1 = p210357 := by rw [he210355]; rfl
              have fq210371 : fI (F210218 q210341) 2 = p210358 := by rw [he210355]; rfl
              have fq210372 : fI (F210218 q210341) 3 = p210359 := by rw [he210355]; rfl
              have fq210373 : fI (F210218 q210341) 4 = p210360 := by rw [he210355]; rfl
              have fq210374 : fI (F210218 q210341) 5 = p210361 := by rw [he210355]; rfl
              have fq210375 : fI (F210218 q210341) 6 = p210362 := by rw [he210355]; rfl
              refine Gw_callV (As := [.ref q210341]) (gV_ok D I) (cp_1728_Row_put l hl0 D I P210217 F210218 q210219 q210341 p210283 p210284 p210285 p210286 p210287 p210288 p210289 p210356 p210357 p210358 p210359 p210360 p210361 p210362 hm210281 hm210354 he210282 he210355 (rn_ty ht210277 ht210344 (by decide)) bp210283 bp210284 bp210287 (gB_w bp210288' (by decide) (by decide)) (gB_w bp210289' (by decide) (by decide)) bp210356 bp210357 bp210360 bp210361 bp210362) dr_cX13_copy_61 ⟨wr_10_144, wr_1_39, wr_10_147, by decide, rfl, (Nat.le_of_ble_eq_true rfl), (Nat.le_of_ble_eq_true rfl)⟩ wr_10_145 wr_10_146 hm210281 he210282 rfl (rm_zc pk210280) (rm_zs pk210280) (Nat.le_of_ble_eq_true rfl) (fun r210379 w210380 dc210376 ds210377 hp210378 => ?_) (fun _ _ _ _ _ z => z.elim)
              obtain ⟨F210381, rfl, rfl, hfr210383, he210384, he210385, hdc, hds⟩ := hp210378
              have he210386 : F210381 q209461 = .inr (17, [.ref q210298, .ref q210299, .int p210300, .int p210301]) := (hfr210383 q209461 hm210296 (nm_c (rn_oo he210297 he210282 (by decide)) nm_n)).trans he210297
              have he210387 : F210381 q210298 = .inr (4, [.int p210322, .ref q210324, .int p210323]) := (hfr210383 q210298 hm210320 (nm_c (rn_oo he210321 he210282 (by decide)) nm_n)).trans he210321
              have he210388 : F210381 q210324 = .inl (I (.object "java/lang/Object"), n210338, .inr (.inr (.inr (.inr f210339)))) := (hfr210383 q210324 hm210340 (nm_c (rn_ao r210332 he210282) nm_n)).trans r210332
              have hfr210389 : rFr [q210219] P210217 F210218 F210381 := rFr_call (rSub_rf (P := P210217)) (rFr_rf (W := []) (P := P210217) (F := F210218)) hfr210383 (fun b hb hn => ⟨nm_n, (nm_c (fun e => hn (e ▸ List.mem_cons_self)) nm_n)⟩)
              change G _ _ _ _ _ _ _ _ _ _ _
              refine G_widen (cs' := ((rPh gm_F210218 el_F210218 f - rPh γ0 el0 f) / 18)) (sl' := (rPh gm_F210218 el_F210218 f - rPh γ0 el0 f)) (rm_d0 hdc) (rm_d0 hds) ?_
              have hT210390 : RS D I P210217 F210381 gm_F210218 el := RS_fr hT210243 hfr210389 ht210277 (by decide) ⟨p210356, p210357, p210358, p210359, p210360, p210361, p210362, he210384, bp210356, bp210357, bp210360, bp210361, bp210362, r210363, r210364, r210365⟩
              have hs210391 := rSk_fr hs210244 hT210390 hfr210389 ht210277 (by decide) (by decide)
              have md210392 : (fI (F210381 q196051) 3).toInt = (fI (F210218 q196051) 3).toInt := by rw [hfr210389 q196051 (RS_m hT210243 ht210245 (by decide)) (nm_c (rn_ty ht210245 ht210277 (by decide)) nm_n)]
              refine G_aload 2 dr_cX13_copy_64 rfl ?_
              have hm210393 : q209500 ∈ P210217 := RS_m hT210390 ht210249 (by decide)
              obtain ⟨q210395, q210396, p210397, p210398, he210394, ht210404, ht210399, ht210400, ht210401, ht210402, ht210403, bp210397, bp210398⟩ := show rk_202 gm_F210218 q209500 (F210381 q209500) from RS_o hT210390 ht210249
              have hf210405 : gm_F210218 1 q210395 = f := (show gm_F210218 1 q210395 = gm_F210218 1 q209500 from ht210400).trans hf210250
              have hf210406 : gm_F210218 1 q210396 = f := (show gm_F210218 1 q210396 = gm_F210218 1 q209500 from ht210402).trans hf210250
              have r210407 : gm_F210218 6 (gm_F210218 1 q209500) = gm_F210218 6 f := by rw [hf210250]
              have r210408 : gm_F210218 7 (gm_F210218 1 q209500) = gm_F210218 7 f := by rw [hf210250]
              have r210409 : gm_F210218 19 (gm_F210218 1 q209500) = gm_F210218 19 f := by rw [hf210250]
              have r210410 : gm_F210218 2 (gm_F210218 14 q209500) = gm_F210218 2 q210395 := by rw [ht210404.1]
              have fq210411 : fR (F210381 q209500) 0 = q210395 := by rw [he210394]; rfl
              refine Gp_get 0 hm210393 he210394 dr_cX13_copy_66 (gk_X12 D I) (Nat.le_of_ble_eq_true rfl) wr_9_219 rfl ?_
              refine G_aload 0 dr_cX13_copy_69 rfl ?_
              have rg210412 := rM_ge hT210390 ht210245 hf210246
              have rm210413 := rM_bd hB210276
              have bd210414 := rBd_c hT210390 ht210245 hf210246 hB210276
              have rc210415 := rc_at hT210390 ht210245 hf210246
              have r210417 : gm_F210218 14 (el_F210218 (gm_F210218 14 q196051) (g209355.toInt : Int).toNat) = q210395 := by rw [r210258]; exact ht210404.1
              have r210418 := rg210412.2.2 _ r210257
              rw [r210417] at r210418
              have r210419 := bd210414.2.2.2 _ r210257
              rw [r210417] at r210419
              have r210420 : gm_F210218 7 (gm_F210218 1 q210219) = gm_F210218 7 f := by rw [x1210229]
              have hx210421 : rk_1 gm_F210218 q210219 (F210381 q210219) := ⟨p210356, p210357, p210358, p210359, p210360, p210361, p210362, he210384, bp210356, bp210357, bp210360, bp210361, bp210362, r210363, r210364, r210365, (Or.inl (r210366.resolve_right (by omega))), (Or.inl x22210230)⟩
              refine Gt_add (c := q196051) (f := f) hl0 dr_cX13_copy_71 ⟨wr_10_3, wr_1_18, wr_10_6, by decide, rfl, (Nat.le_of_ble_eq_true rfl), (Nat.le_of_ble_eq_true rfl)⟩ wr_10_4 wr_10_5 hT210390 ht210399 hf210405 ht210277 x1210229 x22210230 r210278 (by omega) ht210245 hf210246 r210257 r210417 hx210421 (Nat.le_trans r210419 (Nat.le_trans hBk (by decide))) (rm_cs hph210279 r210418 rm210413 (by decide)) (rm_sl hph210279 r210418 rm210413 rm_s11) (Nat.le_of_ble_eq_true rfl) (fun P210422 F210416 gm_F210416 el_F210416 dc210423 ds210424 hq210425 => ?_)
              have hq210426 := hq210425
              obtain ⟨hk210427, x0210428, h2210429, hel210430, hot210431, h16210432, h18210433, hnu210434, hFx210435, hr210436, hM210437, hBB210438⟩ := hq210425
              have hk210439 := rSk_of hk210427
              have r210440 : (fI (F210416 q196051) 3).toInt = (fI (F210381 q196051) 3).toInt := by rw [rSk_F hk210439 ht210245 (by decide) (by decide)]
              have hT210441 := hk210439.1
              have hs210442 := rSk_tr hs210391 hk210439 (by decide) (by decide) (by decide)
              have ht210443 : rKd gm_F210416 q196051 9 := rSk_k hk210439 ht210245 (by decide) (by decide)
              have hf210444 : gm_F210416 1 q196051 = f := rSk_1 hk210439 ht210245 (by decide) hf210246
              have ht210445 : rKd gm_F210416 q196052 9 := rSk_kf hk210439 ht210247 (by decide) (by rw [hf210248]; exact hne)
              have hf210446 : gm_F210416 1 q196052 = fo := rSk_1 hk210439 ht210247 (by decide) hf210248
              have ht210447 : rKd gm_F210416 q209500 202 := rSk_k hk210439 ht210249 (by decide) (by decide)
              have hf210448 : gm_F210416 1 q209500 = f := rSk_1 hk210439 ht210249 (by decide) hf210250
              have ht210449 : rKd gm_F210416 q209461 2 := rSk_kf hk210439 ht210251 (by decide) (by rw [hf210252]; exact hne)
              have hf210450 : gm_F210416 1 q209461 = fo := rSk_1 hk210439 ht210251 (by decide) hf210252
              have ht210451 : rKd gm_F210416 q210036 3 := rSk_kf hk210439 ht210253 (by decide) (by rw [hf210254]; exact hne)
              have hf210452 : gm_F210416 1 q210036 = fo := rSk_1 hk210439 ht210253 (by decide) hf210254
              have ht210453 : rKd gm_F210416 q210298 3 := rSk_kf hk210439 ht210302 (by decide) (by rw [hf210311]; exact hne)
              have hf210454 : gm_F210416 1 q210298 = fo := rSk_1 hk210439 ht210302 (by decide) hf210311
              have ht210455 : rKd gm_F210416 q210395 3 := rSk_k hk210439 ht210399 (by decide) (by decide)
              have hf210456 : gm_F210416 1 q210395 = f := rSk_1 hk210439 ht210399 (by decide) hf210405
              have r210457 := (rSk_s hk210439 ht210245 (by decide)).2.1
              have r210458 := hot210431 _ (by rw [rc210415.2.1]; decide) (fun q => by rw [q, show _ = 3 from ht210399] at rc210415; exact absurd rc210415.2.1 (by decide))
              have r210459 : (g209355.toInt : Int).toNat < gm_F210416 2 (gm_F210416 14 q196051) := by rw [r210457, r210458.1]; exact r210257
              have r210460 : el_F210416 (gm_F210416 14 q196051) (g209355.toInt : Int).toNat = q209500 := by rw [r210457, r210458.2]; exact r210258
              have kb210461 : rKb gm_F210416 el_F210416 q196051 (g209355.toInt : Int).toNat := rKb_t kb210259 hk210439 (by decide) r210457 (fun i _ => by rw [r210458.2])
              clear bp210283 bp210284 bp210287 bp210288 bp210289 bp210285 bp210286 bp210300 bp210301 r210309 r210310 bp210356 bp210357 bp210360 bp210361 bp210362 bp210358 bp210359 bp210397 bp210398 rg210412 rm210413 bd210414 rc210415 r210418 r210419
              clear r210290 r210291 r210292 r210363 r210364 r210365 r210366 r210367
              have r210462 := rSk_g hs210442 hne
              have r210463 : 0 < gm_F210416 6 (gm_F210416 1 q196052) := by rw [hf210446, r210462.1]; exact x196053
              have r210464 : gm_F210416 6 fo = γ0 6 fo := r210462.1
              have r210465 : gm_F210416 7 fo = 0 := by rw [r210462.2.1]; exact x196054
              have r210467 := RS_valid hT0 hzq196052 hfo0 x196053
              have r210466 := (rSk_o (i := g209355.toInt.toNat) hT0 hs210442 hzq196052 (by rw [hfo0]; exact hne)).2.2.2 (by omega)
              rw [← x210019] at r210466
              have xs210468 : gm_F210416 2 (gm_F210416 14 q209461) = γ0 2 (γ0 14 q209461) := by rw [r210466.1]; exact r210466.2.1
              first | have sz210469 := (hot210431 q210036 (rT0 ht210253 (by decide)) (by assumption)).1 | skip
              first | have sz210470 := (hot210431 q210298 (rT0 ht210302 (by decide)) (by assumption)).1 | skip
              obtain ⟨nu210471, nu210472, nu210473, nu210474⟩ := hnu210434
              have ht210475 : rKd gm_F210416 q210219 1 := x0210428
              have hB210476 : rBd gm_F210416 el_F210416 f B := hBB210438 B hB210276
              have hph210477 : rPh γ0 el0 f ≤ rPh gm_F210416 el_F210416 f := rm_ph hph210279 hr210436.2
              have pk210478 : rPh gm_F210416 el_F210416 f ≤ 387 * B + 6000 := rm_pk (rM_ge hT210441 ht210443 hf210444).1 (rM_bd hB210476)
              refine G_widen (cs' := ((rPh gm_F210416 el_F210416 f - rPh γ0 el0 f) / 18)) (sl' := (rPh gm_F210416 el_F210416 f - rPh γ0 el0 f)) (rm_wc hph210279 hr210436.1) (rm_ws hph210279 hr210436.2) ?_
              refine G_pop dr_cX13_copy_74 rfl ?_
              obtain ⟨z210479, hz210479⟩ : ∃ z : Int32, z = g209998 + Int32.ofInt 1 := ⟨_, rfl⟩
              have ez210479 : z210479.toInt = g209998.toInt + 1 := gI_inc hz210479 (by decide) bg209998' (by decide) (by decide)
              have bz210479 : gB z210479 1 1000000 := ⟨by omega, by omega⟩
              refine G_iinc (L' := [(5, .int z210479), (6, .ref q210219), (4, .ref q209500), (3, .ref q209461), (2, .int g209355), (0, .ref q196051), (1, .ref q196052)]) z210479 1 dr_cX13_copy_75 rfl hz210479.symm (Nat.le_of_ble_eq_true rfl) rfl ?_
              refine G_goto 29 dr_cX13_copy_78 (by decide +kernel) ?_
              refine G_lv (L' := [(5, .int z210479), (4, .ref q209500), (3, .ref q209461), (2, .int g209355), (0, .ref q196051), (1, .ref q196052)]) [0, 2, 3, 4, 5, 6] rfl ?_
              exact ih29_210020 P210422 F210416 gm_F210416 el_F210416 z210479 (gB_w bz210479 (by decide) (by decide)) hT210441 hs210442 hph210477 hB210476 ht210447 hf210448 r210459 r210460 ht210449 hf210450 (by omega) (by omega) (by omega) (by omega) (by omega) kb210461 (by omega) (by omega) x210019 (by omega) (fun k e1 e2 e3 e4 ht => kt29_210021 k e1 e2 e3 e4 (fun R c1 c2 => c2 P209999 F210000 gm_F210000 el_F210000 g209998 q210036 p210060 P210217 F210218 gm_F210218 el_F210218 q210219 dc210220 ds210221 q210298 q210341 p210323 p210356 p210357 p210358 p210359 p210360 p210361 p210362 F210381 q210395 P210422 F210416 gm_F210416 el_F210416 dc210423 ds210424 z210479 k e1 e2 e3 e4 bg209998 hT210001 hs210002 x210011 x210012 x210013 x210014 x210015 x210016 x210017 x210018 x210019 x210020 fq210056 fq210067 fq210068 r210206 hq210226 fq210318 hx210342 fq210347 ht210353 fq210369 fq210370 fq210371 fq210372 fq210373 fq210374 fq210375 hfr210389 he210384 fq210411 hq210426 ez210479 (ht R c1 c2))) (rm_m1 ez210479 bg209998'.1 jl210207 hm29_210020)
        exact hlp29_210020 ((γ0 2 (γ0 14 q209461) - (0 : Int).toNat) + 1) P209498 F209499 gm_F209499 el_F209499 0 (gB_w (gBl (show Int32.toInt 0 = 0 by decide)) (by decide) (by decide)) hT209526 hs209527 hph209552 hB209542 ht209548 b1209507 r209550 r209551 ht209532 hf209533 (by have qa0 : Int32.toInt 0 = 0 := (by decide); omega) (by have qa0 : Int32.toInt 0 = 0 := (by decide); omega) (by have qa0 : Int32.toInt 0 = 0 := (by decide); omega) (by have qa0 : Int32.toInt 0 = 0 := (by decide); omega) (by have qa0 : Int32.toInt 0 = 0 := (by decide); omega) kb209534 (by have qa0 : Int32.toInt 0 = 0 := (by decide); omega) (by have qa0 : Int32.toInt 0 = 0 := (by decide); omega) hx0209493 (by have qa0 : Int32.toInt 0 = 0 := (by decide); omega) (fun k e1 e2 e3 e4 ht => ht) (Nat.lt_succ_self _)
  exact hlp6_209369 ((γ0 6 fo - (0 : Int).toNat) + 1) P196049 F196065 gm_F196065 el_F196065 0 (gB_w (gBl (show Int32.toInt 0 = 0 by decide)) (by decide) (by decide)) hT196082 hs196083 hph196093 hB196092 (by have qa0 : Int32.toInt 0 = 0 := (by decide); omega) (by have qa0 : Int32.toInt 0 = 0 := (by decide); omega) (by have qa0 : Int32.toInt 0 = 0 := (by decide); omega) (by have qa0 : Int32.toInt 0 = 0 := (by decide); omega) (by have qa0 : Int32.toInt 0 = 0 := (by decide); omega) rKb_0 (by show gm_F196065 16 f ≤ 0; omega) (by have qa0 : Int32.toInt 0 = 0 := (by decide); omega) (fun k e1 e2 e3 e4 ht => ht) (Nat.lt_succ_self _)
/- tl_RModel_merge_20: l5; out: l6, l5 -/
def tl_RModel_merge_20 (D : va_G) (I : FieldType → ClassId) (γ0 el0 : Nat → Nat → Nat) (f : Nat) (F : Nat → va_E) (c1 : Nat) (c2 : Nat → Nat → Nat) (c3 : Nat → Nat → Nat) (q0 : Nat) (a2 : Int32) (s1 : Int32) (k : Nat) (e1 : Nat) (e2 : Int32) : Prop := ∀ R : (Int32) → Nat → (Nat) → (Int32) → Prop,
  (∀ (l5_2 : Int32) (x1 : Nat) (x2 : Int32), gB l5_2 0 1000000 → fR (F c1) 0 = x1 → x2.toInt = (c2 2 x1 : Int) → fI (F x1) 2 = x2 → x2.toInt ≤ l5_2.toInt → R l5_2 172 (fun _ => 0 : Nat) (0 : Int32)) →
  (∀ (l5_2 : Int32) (x1 : Nat) (x2 : Int32) (x3 : Nat) (x4 : Int32) (x5 : Int32) (k : Nat) (e1 : Nat) (e2 : Int32), gB l5_2 0 1000000 → fR (F c1) 0 = x1 → x2.toInt = (c2 2 x1 : Int) → fI (F x1) 2 = x2 → l5_2.toInt < x2.toInt → x3 = c3 x1 l5_2.toInt.toNat → tr_RArrayList_get l5_2 x2 → fI (F x3) 0 = x4 → x4.toInt ≠ 0 → x5.toInt = l5_2.toInt + 1 → R x5 k e1 e2 → R l5_2 k e1 e2) →
  (∀ (l5_2 : Int32) (x1 : Nat) (x2 : Int32) (x3 : Nat) (x4 : Int32) (x5 : Int32) (x6 : Int32) (k : Nat) (e1 : Nat) (e2 : Int32), gB l5_2 0 1000000 → fR (F c1) 0 = x1 → x2.toInt = (c2 2 x1 : Int) → fI (F x1) 2 = x2 → l5_2.toInt < x2.toInt → x3 = c3 x1 l5_2.toInt.toNat → tr_RArrayList_get l5_2 x2 → fI (F x3) 0 = x4 → x4.toInt = 0 → fI (F x3) 5 = x5 → x5.toInt = 0 → x6.toInt = l5_2.toInt + 1 → R x6 k e1 e2 → R l5_2 k e1 e2) →
  (∀ (l5_2 : Int32) (x1 : Nat) (x2 : Int32) (x3 : Nat) (x4 : Int32) (x5 : Int32) (x6 : Int32) (x7 : Int32), gB l5_2 0 1000000 → fR (F c1) 0 = x1 → x2.toInt = (c2 2 x1 : Int) → fI (F x1) 2 = x2 → l5_2.toInt < x2.toInt → x3 = c3 x1 l5_2.toInt.toNat → tr_RArrayList_get l5_2 x2 → fI (F x3) 0 = x4 → x4.toInt = 0 → fI (F x3) 5 = x5 → x5.toInt ≠ 0 → fI (F x3) 1 = x6 → fI (F x3) 2 = x7 → x6.toInt = x7.toInt → R l5_2 98 x3 l5_2) →
  (∀ (l5_2 : Int32) (x1 : Nat) (x2 : Int32) (x3 : Nat) (x4 : Int32) (x5 : Int32) (x6 : Int32) (x7 : Int32) (x8 : Int32), gB l5_2 0 1000000 → fR (F c1) 0 = x1 → x2.toInt = (c2 2 x1 : Int) → fI (F x1) 2 = x2 → l5_2.toInt < x2.toInt → x3 = c3 x1 l5_2.toInt.toNat → tr_RArrayList_get l5_2 x2 → fI (F x3) 0 = x4 → x4.toInt = 0 → fI (F x3) 5 = x5 → x5.toInt ≠ 0 → fI (F x3) 1 = x6 → fI (F x3) 2 = x7 → x6.toInt ≠ x7.toInt → gB x8 0 1 → tr_RModel_mayMerge D I c2 c3 F q0 x6 x7 a2 x8 → x8.toInt ≠ 0 → R l5_2 98 x3 l5_2) →
  (∀ (l5_2 : Int32) (x1 : Nat) (x2 : Int32) (x3 : Nat) (x4 : Int32) (x5 : Int32) (x6 : Int32) (x7 : Int32) (x8 : Int32) (x9 : Int32) (k : Nat) (e1 : Nat) (e2 : Int32), gB l5_2 0 1000000 → fR (F c1) 0 = x1 → x2.toInt = (c2 2 x1 : Int) → fI (F x1) 2 = x2 → l5_2.toInt < x2.toInt → x3 = c3 x1 l5_2.toInt.toNat → tr_RArrayList_get l5_2 x2 → fI (F x3) 0 = x4 → x4.toInt = 0 → fI (F x3) 5 = x5 → x5.toInt ≠ 0 → fI (F x3) 1 = x6 → fI (F x3) 2 = x7 → x6.toInt ≠ x7.toInt → gB x8 0 1 → tr_RModel_mayMerge D I c2 c3 F q0 x6 x7 a2 x8 → x8.toInt = 0 → x9.toInt = l5_2.toInt + 1 → R x9 k e1 e2 → R l5_2 k e1 e2) →
  R s1 k e1 e2
/- tl_RModel_merge_2: l3; out: l6, l5, l4 -/
def tl_RModel_merge_2 (D : va_G) (I : FieldType → ClassId) (γ0 el0 : Nat → Nat → Nat) (f : Nat) (F : Nat → va_E) (q1 : Nat) (c1 : Nat → Nat → Nat) (c2 : Nat → Nat → Nat) (q0 : Nat) (a2 : Int32) (s1 : Int32) (k : Nat) (e1 : Nat) (e2 : Int32) (e3 : Nat) : Prop := ∀ R : (Int32) → Nat → (Nat) → (Int32) → (Nat) → Prop,
  (∀ (l3_1 : Int32) (x1 : Int32), gB l3_1 0 1000000 → fI (F q1) 3 = x1 → x1.toInt ≤ l3_1.toInt → R l3_1 178 (fun _ => 0 : Nat) (0 : Int32) (fun _ => 0 : Nat)) →
  (∀ (l3_1 : Int32) (x1 : Int32) (x2 : Nat) (x3 : Nat) (x4 : Int32) (x5 : Int32) (k : Nat) (e1 : Nat) (e2 : Int32) (e3 : Nat), gB l3_1 0 1000000 → fI (F q1) 3 = x1 → l3_1.toInt < x1.toInt → fR (F q1) 0 = x2 → x3 = c1 x2 l3_1.toInt.toNat → fI (F x2) 2 = x4 → tr_RCode_get l3_1 x4 → (tl_RModel_merge_20 D I γ0 el0 f F x3 c2 c1 q0 a2 (0 : Int32) 172 (fun _ => 0 : Nat) (0 : Int32)) → x5.toInt = l3_1.toInt + 1 → R x5 k e1 e2 e3 → R l3_1 k e1 e2 e3) →
  (∀ (l3_1 : Int32) (x1 : Int32) (x2 : Nat) (x3 : Nat) (x4 : Int32) (x5 : Nat) (x6 : Int32), gB l3_1 0 1000000 → fI (F q1) 3 = x1 → l3_1.toInt < x1.toInt → fR (F q1) 0 = x2 → x3 = c1 x2 l3_1.toInt.toNat → fI (F x2) 2 = x4 → tr_RCode_get l3_1 x4 → tl_RModel_merge_20 D I γ0 el0 f F x3 c2 c1 q0 a2 (0 : Int32) 98 x5 x6 → R l3_1 98 x5 x6 x3) →
  R s1 k e1 e2 e3
/- tr_RModel_merge: result, P, F, gm, el -/
def tr_RModel_merge (D : va_G) (I : FieldType → ClassId) (γ0 el0 : Nat → Nat → Nat) (f : Nat) (P : List Nat) (F : Nat → va_E) (q0 : Nat) (q1 : Nat) (a2 : Int32) (o1 : Int32) (o2 : List Nat) (o3 : Nat → va_E) (o4 : Nat → Nat → Nat) (o5 : Nat → Nat → Nat) : Prop := ∀ R : (Int32) → (List Nat) → (Nat → va_E) → (Nat → Nat → Nat) → (Nat → Nat → Nat) → Prop,
  (∀ (x1 : Nat → Nat → Nat) (x2 : Nat → Nat → Nat), x1 = γ0 → x2 = el0 → (tl_RModel_merge_2 D I γ0 el0 f F q1 x2 x1 q0 a2 (0 : Int32) 178 (fun _ => 0 : Nat) (0 : Int32) (fun _ => 0 : Nat)) → R (0 : Int32) P F x1 x2) →
  (∀ (x1 : Nat → Nat → Nat) (x2 : Nat → Nat → Nat) (x3 : Nat) (x4 : Int32) (x5 : Nat) (x6 : Int32) (x7 : Int32) (x8 : Int32) (x9 : Int32) (x10 : Nat) (x11 : Nat → va_E) (x12 : Nat → Nat → Nat) (x13 : Nat → Nat → Nat) (x14 : Int32) (x15 : Int32) (x16 : Nat → va_E), x1 = γ0 → x2 = el0 → tl_RModel_merge_2 D I γ0 el0 f F q1 x2 x1 q0 a2 (0 : Int32) 98 x3 x4 x5 → fI (F x3) 1 = x6 → fI (F x3) 2 = x7 → (x6.toInt ≥ x8.toInt ∧ x7.toInt ≥ x8.toInt ∧ (x8.toInt = x6.toInt ∨ x8.toInt = x7.toInt)) → (x6.toInt ≤ x9.toInt ∧ x7.toInt ≤ x9.toInt ∧ (x9.toInt = x6.toInt ∨ x9.toInt = x7.toInt)) → fR (F x5) 0 = x10 → rDq D I P F x1 x2 f x10 x4.toInt.toNat x11 x12 x13 → fI (x11 q0) 13 = x14 → x15 = x14 + (1 : Int32) → (∀ b, b ≠ q0 → x16 b = x11 b) → x16 q0 = cF (x11 q0) 13 (.int x15) → x8.toInt = x9.toInt → R (1 : Int32) P x16 x12 x13) →
  (∀ (x1 : Nat → Nat → Nat) (x2 : Nat → Nat → Nat) (x3 : Nat) (x4 : Int32) (x5 : Nat) (x6 : Int32) (x7 : Int32) (x8 : Int32) (x9 : Int32) (x10 : Nat) (x11 : Nat → va_E) (x12 : Nat → Nat → Nat) (x13 : Nat → Nat → Nat) (x14 : Int32) (x15 : Int32) (x16 : Nat → va_E) (x17 : Nat → va_E), x1 = γ0 → x2 = el0 → tl_RModel_merge_2 D I γ0 el0 f F q1 x2 x1 q0 a2 (0 : Int32) 98 x3 x4 x5 → fI (F x3) 1 = x6 → fI (F x3) 2 = x7 → (x6.toInt ≥ x8.toInt ∧ x7.toInt ≥ x8.toInt ∧ (x8.toInt = x6.toInt ∨ x8.toInt = x7.toInt)) → (x6.toInt ≤ x9.toInt ∧ x7.toInt ≤ x9.toInt ∧ (x9.toInt = x6.toInt ∨ x9.toInt = x7.toInt)) → fR (F x5) 0 = x10 → rDq D I P F x1 x2 f x10 x4.toInt.toNat x11 x12 x13 → fI (x11 q0) 13 = x14 → x15 = x14 + (1 : Int32) → (∀ b, b ≠ q0 → x16 b = x11 b) → x16 q0 = cF (x11 q0) 13 (.int x15) → x8.toInt ≠ x9.toInt → RS D I P x17 x12 x13 → rStr x12 [1] x16 x17 → tr_RModel_rename D I x12 x13 P x16 q1 x9 x8 x17 → R (1 : Int32) P x17 x12 x13) →
  R o1 o2 o3 o4 o5
