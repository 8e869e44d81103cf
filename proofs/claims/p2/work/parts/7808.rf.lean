theorem dr_cX17_load_0 : decode cX17_load 0 = .ok (.aload_n 0, 1) := by decide +kernel
theorem dr_cX17_load_1 : decode cX17_load 1 = .ok (.getfield 231, 3) := by decide +kernel
theorem wr_7_88 : (Jvm.Cond.fieldLink "SpillForgeModel" (231 : Nat) "SpillForgeModel" "temporaries" "I") ∈ gw := gw_7 88 rfl rfl
theorem dr_cX17_load_4 : decode cX17_load 4 = .ok (.sipush 2000, 3) := by decide +kernel
theorem dr_cX17_load_7 : decode cX17_load 7 = .ok (.if_icmp .ne 5, 3) := by decide +kernel
theorem dr_cX17_load_12 : decode cX17_load 12 = .ok (.aload_n 1, 1) := by decide +kernel
theorem dr_cX17_load_13 : decode cX17_load 13 = .ok (.invokevirtual 177, 3) := by decide +kernel
theorem wr_10_206 : (Jvm.Cond.methodLink "SpillForgeModel" (177 : Nat) ({ cls := "SpillForgeModel$Code", name := "row", desc := "()LSpillForgeModel$Row;" } : Jvm.MethodName)) ∈ gw := gw_10 206 rfl rfl
theorem wr_10_82 : (Jvm.Cond.code ({ cls := "SpillForgeModel$Code", name := "row", desc := "()LSpillForgeModel$Row;" } : Jvm.MethodName) prog_16_method_4_code (2 : Nat) (Option.some (Jvm.ClassFile.FieldType.object "SpillForgeModel$Row"))) ∈ gw := gw_10 82 rfl rfl
theorem wr_10_80 : (Jvm.Cond.instanceMethod ({ cls := "SpillForgeModel$Code", name := "row", desc := "()LSpillForgeModel$Row;" } : Jvm.MethodName)) ∈ gw := gw_10 80 rfl rfl
theorem wr_10_81 : (Jvm.Cond.selects "SpillForgeModel$Code" ({ cls := "SpillForgeModel$Code", name := "row", desc := "()LSpillForgeModel$Row;" } : Jvm.MethodName) ({ cls := "SpillForgeModel$Code", name := "row", desc := "()LSpillForgeModel$Row;" } : Jvm.MethodName)) ∈ gw := gw_10 81 rfl rfl
theorem dr_cX17_load_16 : decode cX17_load 16 = .ok (.astore 5, 2) := by decide +kernel
theorem dr_cX17_load_18 : decode cX17_load 18 = .ok (.aload 5, 2) := by decide +kernel
theorem dr_cX17_load_20 : decode cX17_load 20 = .ok (.bipush 21, 2) := by decide +kernel
theorem dr_cX17_load_22 : decode cX17_load 22 = .ok (.putfield 39, 3) := by decide +kernel
theorem dr_cX17_load_25 : decode cX17_load 25 = .ok (.aload 5, 2) := by decide +kernel
theorem dr_cX17_load_27 : decode cX17_load 27 = .ok (.aload_n 0, 1) := by decide +kernel
theorem dr_cX17_load_28 : decode cX17_load 28 = .ok (.getfield 231, 3) := by decide +kernel
theorem dr_cX17_load_31 : decode cX17_load 31 = .ok (.putfield 52, 3) := by decide +kernel
theorem dr_cX17_load_34 : decode cX17_load 34 = .ok (.aload 5, 2) := by decide +kernel
theorem dr_cX17_load_36 : decode cX17_load 36 = .ok (.iload 4, 2) := by decide +kernel
theorem dr_cX17_load_38 : decode cX17_load 38 = .ok (.putfield 45, 3) := by decide +kernel
theorem dr_cX17_load_41 : decode cX17_load 41 = .ok (.aload_n 2, 1) := by decide +kernel
theorem dr_cX17_load_42 : decode cX17_load 42 = .ok (.getfield 117, 3) := by decide +kernel
theorem dr_cX17_load_45 : decode cX17_load 45 = .ok (.iload_n 3, 1) := by decide +kernel
theorem dr_cX17_load_46 : decode cX17_load 46 = .ok (.aload 5, 2) := by decide +kernel
theorem dr_cX17_load_48 : decode cX17_load 48 = .ok (.invokevirtual 181, 3) := by decide +kernel
theorem wr_10_207 : (Jvm.Cond.methodLink "SpillForgeModel" (181 : Nat) ({ cls := "java/util/ArrayList", name := "add", desc := "(ILjava/lang/Object;)V" } : Jvm.MethodName)) ∈ gw := gw_10 207 rfl rfl
theorem wr_10_210 : (Jvm.Cond.code ({ cls := "java/util/ArrayList", name := "add", desc := "(ILjava/lang/Object;)V" } : Jvm.MethodName) prog_43_method_26_code (5 : Nat) (Option.none : Option Jvm.ClassFile.FieldType)) ∈ gw := gw_10 210 rfl rfl
theorem wr_10_208 : (Jvm.Cond.instanceMethod ({ cls := "java/util/ArrayList", name := "add", desc := "(ILjava/lang/Object;)V" } : Jvm.MethodName)) ∈ gw := gw_10 208 rfl rfl
theorem wr_10_209 : (Jvm.Cond.selects "java/util/ArrayList" ({ cls := "java/util/ArrayList", name := "add", desc := "(ILjava/lang/Object;)V" } : Jvm.MethodName) ({ cls := "java/util/ArrayList", name := "add", desc := "(ILjava/lang/Object;)V" } : Jvm.MethodName)) ∈ gw := gw_10 209 rfl rfl
theorem dr_cX17_load_51 : decode cX17_load 51 = .ok (.aload_n 0, 1) := by decide +kernel
theorem dr_cX17_load_52 : decode cX17_load 52 = .ok (.dup, 1) := by decide +kernel
theorem dr_cX17_load_53 : decode cX17_load 53 = .ok (.getfield 231, 3) := by decide +kernel
theorem dr_cX17_load_56 : decode cX17_load 56 = .ok (.iconst 1, 1) := by decide +kernel
theorem dr_cX17_load_57 : decode cX17_load 57 = .ok (.iadd, 1) := by decide +kernel
theorem dr_cX17_load_58 : decode cX17_load 58 = .ok (.putfield 231, 3) := by decide +kernel
theorem dr_cX17_load_61 : decode cX17_load 61 = .ok (.aload 5, 2) := by decide +kernel
theorem dr_cX17_load_63 : decode cX17_load 63 = .ok (.getfield 52, 3) := by decide +kernel
theorem dr_cX17_load_66 : decode cX17_load 66 = .ok (.ireturn, 1) := by decide +kernel
theorem dr_cX17_load_10 : decode cX17_load 10 = .ok (.iconst (-1), 1) := by decide +kernel
theorem dr_cX17_load_11 : decode cX17_load 11 = .ok (.ireturn, 1) := by decide +kernel
theorem dr_cX13_copy_0 : decode cX13_copy 0 = .ok (.aload_n 0, 1) := by decide +kernel
theorem dr_cX13_copy_1 : decode cX13_copy 1 = .ok (.invokevirtual 73, 3) := by decide +kernel
theorem wr_10_136 : (Jvm.Cond.methodLink "SpillForgeModel$Code" (73 : Nat) ({ cls := "SpillForgeModel$Code", name := "begin", desc := "()V" } : Jvm.MethodName)) ∈ gw := gw_10 136 rfl rfl
theorem wr_9_88 : (Jvm.Cond.code ({ cls := "SpillForgeModel$Code", name := "begin", desc := "()V" } : Jvm.MethodName) prog_16_method_2_code (1 : Nat) (Option.none : Option Jvm.ClassFile.FieldType)) ∈ gw := gw_9 88 rfl rfl
theorem wr_9_86 : (Jvm.Cond.instanceMethod ({ cls := "SpillForgeModel$Code", name := "begin", desc := "()V" } : Jvm.MethodName)) ∈ gw := gw_9 86 rfl rfl
theorem wr_9_87 : (Jvm.Cond.selects "SpillForgeModel$Code" ({ cls := "SpillForgeModel$Code", name := "begin", desc := "()V" } : Jvm.MethodName) ({ cls := "SpillForgeModel$Code", name := "begin", desc := "()V" } : Jvm.MethodName)) ∈ gw := gw_9 87 rfl rfl
theorem dr_cX13_copy_4 : decode cX13_copy 4 = .ok (.iconst 0, 1) := by decide +kernel
theorem dr_cX13_copy_5 : decode cX13_copy 5 = .ok (.istore_n 2, 1) := by decide +kernel
theorem dr_cX13_copy_6 : decode cX13_copy 6 = .ok (.iload_n 2, 1) := by decide +kernel
theorem dr_cX13_copy_7 : decode cX13_copy 7 = .ok (.aload_n 1, 1) := by decide +kernel
theorem dr_cX13_copy_8 : decode cX13_copy 8 = .ok (.invokevirtual 76, 3) := by decide +kernel
theorem wr_10_137 : (Jvm.Cond.methodLink "SpillForgeModel$Code" (76 : Nat) ({ cls := "SpillForgeModel$Code", name := "size", desc := "()I" } : Jvm.MethodName)) ∈ gw := gw_10 137 rfl rfl
theorem dr_cX13_copy_11 : decode cX13_copy 11 = .ok (.if_icmp .ge 106, 3) := by decide +kernel
theorem dr_cX13_copy_117 : decode cX13_copy 117 = .ok (.return_, 1) := by decide +kernel
theorem dr_cX13_copy_14 : decode cX13_copy 14 = .ok (.aload_n 1, 1) := by decide +kernel
theorem dr_cX13_copy_15 : decode cX13_copy 15 = .ok (.iload_n 2, 1) := by decide +kernel
theorem dr_cX13_copy_16 : decode cX13_copy 16 = .ok (.invokevirtual 67, 3) := by decide +kernel
theorem dr_cX13_copy_19 : decode cX13_copy 19 = .ok (.astore_n 3, 1) := by decide +kernel
theorem dr_cX13_copy_20 : decode cX13_copy 20 = .ok (.aload_n 0, 1) := by decide +kernel
theorem dr_cX13_copy_21 : decode cX13_copy 21 = .ok (.invokevirtual 77, 3) := by decide +kernel
theorem wr_10_142 : (Jvm.Cond.methodLink "SpillForgeModel$Code" (77 : Nat) ({ cls := "SpillForgeModel$Code", name := "block", desc := "()LSpillForgeModel$Block;" } : Jvm.MethodName)) ∈ gw := gw_10 142 rfl rfl
theorem wr_9_156 : (Jvm.Cond.code ({ cls := "SpillForgeModel$Code", name := "block", desc := "()LSpillForgeModel$Block;" } : Jvm.MethodName) prog_16_method_3_code (2 : Nat) (Option.some (Jvm.ClassFile.FieldType.object "SpillForgeModel$Block"))) ∈ gw := gw_9 156 rfl rfl
theorem wr_9_154 : (Jvm.Cond.instanceMethod ({ cls := "SpillForgeModel$Code", name := "block", desc := "()LSpillForgeModel$Block;" } : Jvm.MethodName)) ∈ gw := gw_9 154 rfl rfl
theorem wr_9_155 : (Jvm.Cond.selects "SpillForgeModel$Code" ({ cls := "SpillForgeModel$Code", name := "block", desc := "()LSpillForgeModel$Block;" } : Jvm.MethodName) ({ cls := "SpillForgeModel$Code", name := "block", desc := "()LSpillForgeModel$Block;" } : Jvm.MethodName)) ∈ gw := gw_9 155 rfl rfl
theorem dr_cX13_copy_24 : decode cX13_copy 24 = .ok (.astore 4, 2) := by decide +kernel
theorem dr_cX13_copy_26 : decode cX13_copy 26 = .ok (.iconst 0, 1) := by decide +kernel
theorem dr_cX13_copy_27 : decode cX13_copy 27 = .ok (.istore 5, 2) := by decide +kernel
theorem dr_cX13_copy_29 : decode cX13_copy 29 = .ok (.iload 5, 2) := by decide +kernel
theorem dr_cX13_copy_31 : decode cX13_copy 31 = .ok (.aload_n 3, 1) := by decide +kernel
theorem dr_cX13_copy_32 : decode cX13_copy 32 = .ok (.getfield 41, 3) := by decide +kernel
theorem dr_cX13_copy_35 : decode cX13_copy 35 = .ok (.invokevirtual 26, 3) := by decide +kernel
theorem dr_cX13_copy_38 : decode cX13_copy 38 = .ok (.if_icmp .ge 43, 3) := by decide +kernel
theorem dr_cX13_copy_81 : decode cX13_copy 81 = .ok (.aload 4, 2) := by decide +kernel
theorem dr_cX13_copy_83 : decode cX13_copy 83 = .ok (.getfield 89, 3) := by decide +kernel
theorem wr_9_224 : (Jvm.Cond.fieldLink "SpillForgeModel$Code" (89 : Nat) "SpillForgeModel$Block" "end" "LSpillForgeModel$Row;") ∈ gw := gw_9 224 rfl rfl
theorem dr_cX13_copy_86 : decode cX13_copy 86 = .ok (.aload_n 3, 1) := by decide +kernel
theorem dr_cX13_copy_87 : decode cX13_copy 87 = .ok (.getfield 89, 3) := by decide +kernel
theorem dr_cX13_copy_90 : decode cX13_copy 90 = .ok (.invokevirtual 85, 3) := by decide +kernel
theorem wr_10_144 : (Jvm.Cond.methodLink "SpillForgeModel$Code" (85 : Nat) ({ cls := "SpillForgeModel$Row", name := "put", desc := "(LSpillForgeModel$Row;)V" } : Jvm.MethodName)) ∈ gw := gw_10 144 rfl rfl
theorem wr_10_147 : (Jvm.Cond.code ({ cls := "SpillForgeModel$Row", name := "put", desc := "(LSpillForgeModel$Row;)V" } : Jvm.MethodName) prog_18_method_6_code (2 : Nat) (Option.none : Option Jvm.ClassFile.FieldType)) ∈ gw := gw_10 147 rfl rfl
theorem wr_10_145 : (Jvm.Cond.instanceMethod ({ cls := "SpillForgeModel$Row", name := "put", desc := "(LSpillForgeModel$Row;)V" } : Jvm.MethodName)) ∈ gw := gw_10 145 rfl rfl
theorem wr_10_146 : (Jvm.Cond.selects "SpillForgeModel$Row" ({ cls := "SpillForgeModel$Row", name := "put", desc := "(LSpillForgeModel$Row;)V" } : Jvm.MethodName) ({ cls := "SpillForgeModel$Row", name := "put", desc := "(LSpillForgeModel$Row;)V" } : Jvm.MethodName)) ∈ gw := gw_10 146 rfl rfl
theorem dr_cX13_copy_93 : decode cX13_copy 93 = .ok (.aload 4, 2) := by decide +kernel
theorem dr_cX13_copy_95 : decode cX13_copy 95 = .ok (.aload_n 3, 1) := by decide +kernel
theorem dr_cX13_copy_96 : decode cX13_copy 96 = .ok (.getfield 93, 3) := by decide +kernel
theorem wr_9_227 : (Jvm.Cond.fieldLink "SpillForgeModel$Code" (93 : Nat) "SpillForgeModel$Block" "first" "I") ∈ gw := gw_9 227 rfl rfl
theorem dr_cX13_copy_99 : decode cX13_copy 99 = .ok (.putfield 93, 3) := by decide +kernel
theorem dr_cX13_copy_102 : decode cX13_copy 102 = .ok (.aload 4, 2) := by decide +kernel
theorem dr_cX13_copy_104 : decode cX13_copy 104 = .ok (.aload_n 3, 1) := by decide +kernel
theorem dr_cX13_copy_105 : decode cX13_copy 105 = .ok (.getfield 96, 3) := by decide +kernel
theorem wr_9_231 : (Jvm.Cond.fieldLink "SpillForgeModel$Code" (96 : Nat) "SpillForgeModel$Block" "second" "I") ∈ gw := gw_9 231 rfl rfl
theorem dr_cX13_copy_108 : decode cX13_copy 108 = .ok (.putfield 96, 3) := by decide +kernel
theorem dr_cX13_copy_111 : decode cX13_copy 111 = .ok (.iinc 2 1, 3) := by decide +kernel
theorem dr_cX13_copy_114 : decode cX13_copy 114 = .ok (.goto (-108), 3) := by decide +kernel
theorem dr_cX13_copy_41 : decode cX13_copy 41 = .ok (.aload_n 0, 1) := by decide +kernel
theorem dr_cX13_copy_42 : decode cX13_copy 42 = .ok (.invokevirtual 81, 3) := by decide +kernel
theorem wr_10_143 : (Jvm.Cond.methodLink "SpillForgeModel$Code" (81 : Nat) ({ cls := "SpillForgeModel$Code", name := "row", desc := "()LSpillForgeModel$Row;" } : Jvm.MethodName)) ∈ gw := gw_10 143 rfl rfl
theorem dr_cX13_copy_45 : decode cX13_copy 45 = .ok (.astore 6, 2) := by decide +kernel
theorem dr_cX13_copy_47 : decode cX13_copy 47 = .ok (.aload 6, 2) := by decide +kernel
theorem dr_cX13_copy_49 : decode cX13_copy 49 = .ok (.aload_n 3, 1) := by decide +kernel
theorem dr_cX13_copy_50 : decode cX13_copy 50 = .ok (.getfield 41, 3) := by decide +kernel
theorem dr_cX13_copy_53 : decode cX13_copy 53 = .ok (.iload 5, 2) := by decide +kernel
theorem dr_cX13_copy_55 : decode cX13_copy 55 = .ok (.invokevirtual 37, 3) := by decide +kernel
theorem dr_cX13_copy_58 : decode cX13_copy 58 = .ok (.checkcast 45, 3) := by decide +kernel
theorem dr_cX13_copy_61 : decode cX13_copy 61 = .ok (.invokevirtual 85, 3) := by decide +kernel
theorem dr_cX13_copy_64 : decode cX13_copy 64 = .ok (.aload 4, 2) := by decide +kernel
theorem dr_cX13_copy_66 : decode cX13_copy 66 = .ok (.getfield 41, 3) := by decide +kernel
theorem dr_cX13_copy_69 : decode cX13_copy 69 = .ok (.aload 6, 2) := by decide +kernel
theorem dr_cX13_copy_71 : decode cX13_copy 71 = .ok (.invokevirtual 33, 3) := by decide +kernel
theorem dr_cX13_copy_74 : decode cX13_copy 74 = .ok (.pop, 1) := by decide +kernel
theorem dr_cX13_copy_75 : decode cX13_copy 75 = .ok (.iinc 5 1, 3) := by decide +kernel
theorem dr_cX13_copy_78 : decode cX13_copy 78 = .ok (.goto (-49), 3) := by decide +kernel
abbrev ky_188669_SpillForgeModel_load : gKey := (cX17_load, 6, "SpillForgeModel", (some FieldType.int), [], "load", fun _ _ => True)
def pg_188669_SpillForgeModel_load (D : va_G) (I : FieldType → ClassId) (γ0 el0 : Nat → Nat → Nat) (f : Nat) (B : Nat) (P188658 : List Nat) (F188659 : Nat → va_E) (q188660 : Nat) (q188661 : Nat) (q188662 : Nat) (p188663 : Int32) (p188664 : Int32) (jx188665 : Nat) : Option Value → va_W → Nat → Nat → Prop := fun r w dc ds => ∃ (P188999 : List Nat) (F189000 : Nat → va_E) (γ el : Nat → Nat → Nat) (o188998 : Int32), r = some (.int o188998) ∧ w = va_pl P188999 F189000 ∧ rSk f [101] ([3, 5, 6, 8, 9, 10, 101]) D I P188658 F188659 γ0 el0 P188999 F189000 γ el ∧ (18 * dc + rPh γ0 el0 f ≤ rPh γ el f ∧ ds + rPh γ0 el0 f ≤ rPh γ el f) ∧ rBd γ el f B ∧ gB o188998 (-1) 1999
set_option maxRecDepth 100000 in
set_option maxHeartbeats 1500000 in
theorem cg_188669_SpillForgeModel_load (l : Launch) (hl0 : l.stackTraces = false) (D : va_G) (I : FieldType → ClassId) (γ0 el0 : Nat → Nat → Nat) (f : Nat) (B : Nat) (P188658 : List Nat) (F188659 : Nat → va_E) (q188660 : Nat) (q188661 : Nat) (q188662 : Nat) (p188663 : Int32) (p188664 : Int32) (jx188665 : Nat) (hT0 : RS D I P188658 F188659 γ0 el0) (hzq188660 : rKd γ0 q188660 10) (hzq188661 : rKd γ0 q188661 9) (hzq188662 : rKd γ0 q188662 2) (hf0 : γ0 1 q188661 = f) (hB0 : rBd γ0 el0 f B) (hBk : B ≤ 100000) (hqjjx188665 : jx188665 < γ0 2 (γ0 14 q188661)) (hqejx188665 : el0 (γ0 14 q188661) jx188665 = q188662) (hqfjx188665 : γ0 1 q188662 = f) (bp188663 : gB p188663 0 1000000) (bp188664 : gB p188664 0 1999) (x188666 : p188663.toInt ≤ γ0 2 (γ0 14 q188662)) (x188667 : p188664.toInt < γ0 7 f) (x188668 : γ0 16 f + 1 ≤ B) : CtA (gV D I) l yX17_load cX17_load 6 (some FieldType.int) 8 170 (((387 * B + 6000) - rPh γ0 el0 f) / 18) ((387 * B + 6000) - rPh γ0 el0 f) [.ref q188660, .ref q188661, .ref q188662, .int p188663, .int p188664] (va_pl P188658 F188659) (pg_188669_SpillForgeModel_load D I γ0 el0 f B P188658 F188659 q188660 q188661 q188662 p188663 p188664 jx188665) gNA := by
  refine CtA_of hl0 (by decide) (Nat.le_of_ble_eq_true rfl) ?_
  obtain ⟨γ, hγ0⟩ : ∃ z, z = γ0 := ⟨_, rfl⟩
  obtain ⟨el, hel0⟩ : ∃ z, z = el0 := ⟨_, rfl⟩
  have hT : RS D I P188658 F188659 γ el := by rw [hγ0, hel0]; exact hT0
  have hst : rSk f [101] ([3, 5, 6, 8, 9, 10, 101]) D I P188658 F188659 γ0 el0 P188658 F188659 γ el := by rw [hγ0, hel0]; exact rSk_rf hT0
  have hph : rPh γ0 el0 f ≤ rPh γ el f := by rw [hγ0, hel0]; exact Nat.le_refl _
  have hB : rBd γ el f B := by rw [hγ0, hel0]; exact hB0
  have htq188660 : rKd γ q188660 10 := by rw [hγ0]; exact hzq188660
  have htq188661 : rKd γ q188661 9 := by rw [hγ0]; exact hzq188661
  have htq188662 : rKd γ q188662 2 := by rw [hγ0]; exact hzq188662
  have hf1 : γ 1 q188661 = f := by rw [hγ0]; exact hf0
  have hpjjx188665 : jx188665 < γ 2 (γ 14 q188661) := by rw [hγ0]; exact hqjjx188665
  have hpejx188665 : el (γ 14 q188661) jx188665 = q188662 := by rw [hγ0, hel0]; exact hqejx188665
  have hpfjx188665 : γ 1 q188662 = f := by rw [hγ0]; exact hqfjx188665
  have x188666n : p188663.toInt ≤ γ 2 (γ 14 q188662) := by rw [hγ0]; exact x188666
  have x188667n : p188664.toInt < γ 7 f := by rw [hγ0]; exact x188667
  have x188668n : γ 16 f + 1 ≤ B := by rw [hγ0]; exact x188668
  have pk188670 : rPh γ el f ≤ 387 * B + 6000 := rm_pk (rM_ge hT htq188661 hf1).1 (rM_bd hB)
  refine G_widen (cs' := ((rPh γ el f - rPh γ0 el0 f) / 18)) (sl' := (rPh γ el f - rPh γ0 el0 f)) (Nat.zero_le _) (Nat.zero_le _) ?_
  refine G_aload_n 0 dr_cX17_load_0 rfl ?_
  have hm188671 : q188660 ∈ P188658 := RS_m hT htq188660 (by decide)
  obtain ⟨q188673, q188674, p188675, p188676, p188677, p188678, p188679, p188680, p188681, p188682, p188683, p188684, p188685, p188686, p188687, p188688, p188689, he188672, hB188716, ht188690, ht188691, ht188692, ht188693, ht188694, ht188695, ht188696, ht188697, ht188698, ht188699, ht188700, ht188701, ht188702, ht188703, ht188704, ht188705, ht188706, ht188707, ht188708, ht188709, ht188710, ht188711, ht188712, ht188713, hB188717⟩ := show rk_10 γ (F188659 q188660) from RS_o hT htq188660
  refine Gp_get 14 hm188671 he188672 dr_cX17_load_1 (gk_X17 D I) (Nat.le_of_ble_eq_true rfl) wr_7_88 rfl ?_
  have bp188680 : gB p188680 0 2000 := (hB188716.2.2.2.1)
  refine G_sipush 2000 dr_cX17_load_4 (by decide +kernel) ?_
  refine G_icmp_ne 12 dr_cX17_load_7 (by decide +kernel) (fun hc188718 => ?_) (fun hc188718 => ?_)
  · have r188719 : p188680.toInt ≠ 2000 := gj_neq hc188718 (show Int32.toInt 2000 = 2000 by decide)
    have bp188680' : gB p188680 0 1999 := ⟨by omega, by omega⟩
    refine G_aload_n 1 dr_cX17_load_12 rfl ?_
    have rg188720 := rM_ge hT htq188661 hf1
    have rm188721 := rM_bd hB
    have bd188722 := rBd_c hT htq188661 hf1 hB
    have rc188723 := rc_at hT htq188661 hf1
    obtain ⟨q188730, hl188731⟩ : ∃ z, z = γ 14 q188662 := ⟨_, rfl⟩
    have hl188732 : γ 0 q188730 = 3 ∨ γ 0 q188730 = 103 := by rw [hl188731, ← hpejx188665]; exact (RS_lst hT rc188723.2.1 hpjjx188665).1
    refine Gt_row (c := q188661) (f := f) hl0 dr_cX17_load_13 ⟨wr_10_206, wr_1_15, wr_10_82, by decide, rfl, (Nat.le_of_ble_eq_true rfl), (Nat.le_of_ble_eq_true rfl)⟩ wr_10_80 wr_10_81 hT htq188661 hf1 (Nat.le_trans bd188722.2.2.1 (Nat.le_trans hBk (by decide))) (rm_cs hph rg188720.2.1 rm188721 (by decide)) (rm_sl hph rg188720.2.1 rm188721 rm_s18) (Nat.le_of_ble_eq_true rfl) (fun P188724 F188725 γ el q188726 dc188727 ds188728 hq188729 => ?_)
    obtain ⟨hk188733, x0188734, x1188735, x22188736, x8188737, h16188738, h18188739, hnu188740, hot188741, h45188742, hf0188743, ⟨hr1188744, hr2188745⟩, hM188746, hBB188747⟩ := hq188729
    have hk188748 := rSk_of hk188733
    have hT188749 := hk188748.1
    have hs188750 := rSk_tr hst hk188748 (by decide) (by decide) (by decide)
    have r188751 := rSk_F hk188748 htq188660 (by decide) (by decide)
    have ht188752 : rKd γ q188660 10 := rSk_k hk188748 htq188660 (by decide) (by decide)
    have ht188753 : rKd γ q188661 9 := rSk_k hk188748 htq188661 (by decide) (by decide)
    have hf188754 : γ 1 q188661 = f := rSk_1 hk188748 htq188661 (by decide) hf1
    have ht188755 : rKd γ q188662 2 := rSk_k hk188748 htq188662 (by decide) (by decide)
    have hf188756 : γ 1 q188662 = f := rSk_1 hk188748 htq188662 (by decide) hpfjx188665
    have r188757 := (rSk_s hk188748 htq188661 (by decide)).2.1
    have r188758 := hot188741 _ (by rw [rc188723.2.1]; decide) (by rw [rc188723.2.1]; decide)
    have r188759 : jx188665 < γ 2 (γ 14 q188661) := by rw [r188757, r188758.1]; exact hpjjx188665
    have r188760 : el (γ 14 q188661) jx188665 = q188662 := by rw [r188757, r188758.2]; exact hpejx188665
    clear rg188720 rm188721 bd188722 rc188723
    have hm188761 : q188660 ∈ P188724 := RS_m hT188749 ht188752 (by decide)
    obtain ⟨q188763, q188764, p188765, p188766, p188767, p188768, p188769, p188770, p188771, p188772, p188773, p188774, p188775, p188776, p188777, p188778, p188779, he188762, hB188806, ht188780, ht188781, ht188782, ht188783, ht188784, ht188785, ht188786, ht188787, ht188788, ht188789, ht188790, ht188791, ht188792, ht188793, ht188794, ht188795, ht188796, ht188797, ht188798, ht188799, ht188800, ht188801, ht188802, ht188803, hB188807⟩ := show rk_10 γ (F188725 q188660) from RS_o hT188749 ht188752
    have r188808 : p188767.toInt = p188677.toInt := by have z : p188767 = p188677 := congrArg (fun e => fI e 11) (he188762.symm.trans (r188751.trans he188672)); rw [z]
    have bp188767 : gB p188767 0 100 := (hB188806.2.2.1)
    have r188809 : p188770.toInt = p188680.toInt := by have z : p188770 = p188680 := congrArg (fun e => fI e 14) (he188762.symm.trans (r188751.trans he188672)); rw [z]
    have bp188770 : gB p188770 0 2000 := (hB188806.2.2.2.1)
    have bp188770' : gB p188770 0 1999 := ⟨by omega, by omega⟩
    have sz188810 := (rSk_s hk188748 htq188662 (by decide)).2.1
    have sz188811 := congrArg (γ 2) sz188810
    have sz188812 := (hot188741 q188730 (by omega) (by omega)).1
    rw [hl188731] at sz188812
    clear hl188732
    obtain ⟨nu188813, nu188814, nu188815, nu188816⟩ := hnu188740
    have r188817 := hf0188743.2.2
    have hB188818 : rBd γ el f B := hBB188747 B (by omega) hB
    have ht188819 : rKd γ q188726 101 := x0188734
    have r188820 : γ 8 q188726 < γ 16 f := rm_x8 x8188737 h16188738 rfl
    have hph188821 : rPh γ0 el0 f ≤ rPh γ el f := rm_ph hph hr2188745
    have pk188822 : rPh γ el f ≤ 387 * B + 6000 := rm_pk (rM_ge hT188749 ht188753 hf188754).1 (rM_bd hB188818)
    have hm188823 : q188726 ∈ P188724 := RS_m hT188749 ht188819 (by decide)
    obtain ⟨p188825, p188826, p188827, p188828, p188829, p188830, p188831, he188824, bp188825, bp188826, bp188829, bp188830, bp188831, r188832, r188833, r188834⟩ := show rkR (F188725 q188726) from RS_o hT188749 ht188819
    have bp188827 := gB_any p188827
    have bp188828 := gB_any p188828
    have r188835 : γ 7 (γ 1 q188726) = γ 7 f := by rw [x1188735]
    have r188836 : p188830.toInt = 0 := by have z := hf0188743.1; rw [he188824] at z; exact z
    have bp188830' : gB p188830 0 0 := ⟨by omega, by omega⟩
    have r188837 : p188831.toInt = 0 := by have z := hf0188743.2.1; rw [he188824] at z; exact z
    have bp188831' : gB p188831 0 0 := ⟨by omega, by omega⟩
    refine G_widen (cs' := ((rPh γ el f - rPh γ0 el0 f) / 18)) (sl' := (rPh γ el f - rPh γ0 el0 f)) (rm_wc hph hr1188744) (rm_ws hph hr2188745) ?_
    refine G_astore (L' := [(5, .ref q188726), (0, .ref q188660), (1, .ref q188661), (2, .ref q188662), (3, .int p188663), (4, .int p188664)]) dr_cX17_load_16 (Nat.le_of_ble_eq_true rfl) rfl ?_
    refine G_aload 0 dr_cX17_load_18 rfl ?_
    refine G_bipush 21 dr_cX17_load_20 (by decide +kernel) ?_
    refine Gp_put 0 hm188823 he188824 dr_cX17_load_22 (gk_X15 D I) (Nat.le_of_ble_eq_true rfl) wr_9_177 rfl rfl rfl (Nat.le_of_ble_eq_true rfl) (fun F188838 e188839 n188840 => ?_)
    have he188841 : F188838 q188660 = .inr (22, [.ref (γ 9 0), .ref (γ 9 1), .ref (γ 9 2), .ref (γ 9 3), .ref (γ 9 4), .ref (γ 9 5), .ref (γ 9 6), .ref (γ 9 7), .ref (γ 9 8), .int p188765, .int p188766, .int p188767, .int p188768, .int p188769, .int p188770, .ref (γ 9 15), .ref (γ 9 16), .ref (γ 9 17), .ref (γ 9 18), .ref (γ 9 19), .ref (γ 9 20), .ref (γ 9 21), .ref (γ 9 22), .int p188771, .int p188772, .int p188773, .int p188774, .int p188775, .ref q188763, .ref (γ 9 29), .int p188776, .ref (γ 9 31), .int p188777, .int p188778, .int p188779, .ref q188764]) := (n188840 q188660 (rn_oo he188762 he188824 (by decide))).trans he188762
    have he188842 : F188838 q188726 = .inr (20, [.int 21, .int p188826, .int p188827, .int p188828, .int p188829, .int p188830, .int p188831]) := e188839
    refine G_aload 0 dr_cX17_load_25 rfl ?_
    refine G_aload_n 1 dr_cX17_load_27 rfl ?_
    refine Gp_get 14 hm188761 he188841 dr_cX17_load_28 (gk_X17 D I) (Nat.le_of_ble_eq_true rfl) wr_7_88 rfl ?_
    refine Gp_put 1 hm188823 he188842 dr_cX17_load_31 (gk_X15 D I) (Nat.le_of_ble_eq_true rfl) wr_9_182 rfl rfl rfl (Nat.le_of_ble_eq_true rfl) (fun F188843 e188844 n188845 => ?_)
    have he188846 : F188843 q188660 = .inr (22, [.ref (γ 9 0), .ref (γ 9 1), .ref (γ 9 2), .ref (γ 9 3), .ref (γ 9 4), .ref (γ 9 5), .ref (γ 9 6), .ref (γ 9 7), .ref (γ 9 8), .int p188765, .int p188766, .int p188767, .int p188768, .int p188769, .int p188770, .ref (γ 9 15), .ref (γ 9 16), .ref (γ 9 17), .ref (γ 9 18), .ref (γ 9 19), .ref (γ 9 20), .ref (γ 9 21), .ref (γ 9 22), .int p188771, .int p188772, .int p188773, .int p188774, .int p188775, .ref q188763, .ref (γ 9 29), .int p188776, .ref (γ 9 31), .int p188777, .int p188778, .int p188779, .ref q188764]) := (n188845 q188660 (rn_oo he188841 he188842 (by decide))).trans he188841
    have he188847 : F188843 q188726 = .inr (20, [.int 21, .int p188770, .int p188827, .int p188828, .int p188829, .int p188830, .int p188831]) := e188844
    have n188848 : ∀ b, b ≠ q188726 → F188843 b = F188725 b := fun b hb => (n188845 b hb).trans (n188840 b hb)
    refine G_aload 0 dr_cX17_load_34 rfl ?_
    refine G_iload 5 dr_cX17_load_36 rfl ?_
    refine Gp_put 4 hm188823 he188847 dr_cX17_load_38 (gk_X15 D I) (Nat.le_of_ble_eq_true rfl) wr_9_193 rfl rfl rfl (Nat.le_of_ble_eq_true rfl) (fun F188849 e188850 n188851 => ?_)
    have he188852 : F188849 q188660 = .inr (22, [.ref (γ 9 0), .ref (γ 9 1), .ref (γ 9 2), .ref (γ 9 3), .ref (γ 9 4), .ref (γ 9 5), .ref (γ 9 6), .ref (γ 9 7), .ref (γ 9 8), .int p188765, .int p188766, .int p188767, .int p188768, .int p188769, .int p188770, .ref (γ 9 15), .ref (γ 9 16), .ref (γ 9 17), .ref (γ 9 18), .ref (γ 9 19), .ref (γ 9 20), .ref (γ 9 21), .ref (γ 9 22), .int p188771, .int p188772, .int p188773, .int p188774, .int p188775, .ref q188763, .ref (γ 9 29), .int p188776, .ref (γ 9 31), .int p188777, .int p188778, .int p188779, .ref q188764]) := (n188851 q188660 (rn_oo he188846 he188847 (by decide))).trans he188846
    have he188853 : F188849 q188726 = .inr (20, [.int 21, .int p188770, .int p188827, .int p188828, .int p188664, .int p188830, .int p188831]) := e188850
    have n188854 : ∀ b, b ≠ q188726 → F188849 b = F188725 b := fun b hb => (n188851 b hb).trans (n188848 b hb)
    refine G_aload_n 3 dr_cX17_load_41 rfl ?_
    have hT188855 : RS D I P188724 F188849 γ el := RS_set hT188749 n188854 ht188819 (by decide) ⟨21, p188770, p188827, p188828, p188664, p188830, p188831, he188853, (gB_w (gBl (show Int32.toInt 21 = 21 by decide)) (by decide) (by decide)), bp188770', bp188664, (gB_w bp188830' (by decide) (by decide)), (gB_w bp188831' (by decide) (by decide)), (Or.inr (by decide)), r188833, r188834⟩
    have hs188856 := rSk_put hs188750 hT188855 n188854 ht188819 (by decide) (by decide)
    have hm188857 : q188662 ∈ P188724 := RS_m hT188855 ht188755 (by decide)
    obtain ⟨q188859, q188860, p188861, p188862, he188858, ht188869, ht188863, ht188864, ht188865, ht188866, ht188867, bp188861, bp188862, r188868, r188870, r188871⟩ := show rk_2 γ q188662 (F188849 q188662) from RS_o hT188855 ht188755
    have hf188872 : γ 1 q188859 = f := (show γ 1 q188859 = γ 1 q188662 from ht188864).trans hf188756
    have hf188873 : γ 1 q188860 = f := (show γ 1 q188860 = γ 1 q188662 from ht188866).trans hf188756
    have r188874 : γ 6 (γ 1 q188662) = γ 6 f := by rw [hf188756]
    have r188875 : γ 7 (γ 1 q188662) = γ 7 f := by rw [hf188756]
    have r188876 : γ 19 (γ 1 q188662) = γ 19 f := by rw [hf188756]
    have r188877 : γ 2 (γ 14 q188662) = γ 2 q188859 := by rw [ht188869.1]
    refine Gp_get 0 hm188857 he188858 dr_cX17_load_42 (gk_X12 D I) (Nat.le_of_ble_eq_true rfl) wr_9_220 rfl ?_
    refine G_iload_n 4 dr_cX17_load_45 rfl ?_
    refine G_aload 0 dr_cX17_load_46 rfl ?_
    have rg188878 := rM_ge hT188855 ht188753 hf188754
    have rm188879 := rM_bd hB188818
    have bd188880 := rBd_c hT188855 ht188753 hf188754 hB188818
    have rc188881 := rc_at hT188855 ht188753 hf188754
    have r188883 : γ 14 (el (γ 14 q188661) jx188665) = q188859 := by rw [r188760]; exact ht188869.1
    have r188884 := rg188878.2.2 _ r188759
    rw [r188883] at r188884
    have r188885 := bd188880.2.2.2 _ r188759
    rw [r188883] at r188885
    have r188886 : γ 7 (γ 1 q188726) = γ 7 f := by rw [x1188735]
    have hx188887 : rk_1 γ q188726 (F188849 q188726) := ⟨21, p188770, p188827, p188828, p188664, p188830, p188831, he188853, (gB_w (gBl (show Int32.toInt 21 = 21 by decide)) (by decide) (by decide)), bp188770', bp188664, (gB_w bp188830' (by decide) (by decide)), (gB_w bp188831' (by decide) (by decide)), (Or.inr (by decide)), r188833, r188834, (Or.inr (by omega))⟩
    refine Gt_ins (c := q188661) (f := f) hl0 dr_cX17_load_48 ⟨wr_10_207, wr_1_18, wr_10_210, by decide, rfl, (Nat.le_of_ble_eq_true rfl), (Nat.le_of_ble_eq_true rfl)⟩ wr_10_208 wr_10_209 hT188855 ht188863 hf188872 ht188819 x1188735 x22188736 r188820 (by omega) ht188753 hf188754 r188759 r188883 hx188887 (by omega) (by omega) (Nat.le_trans r188885 (Nat.le_trans hBk (by decide))) (rm_cs hph188821 r188884 rm188879 (by decide)) (rm_sl hph188821 r188884 rm188879 rm_s11) (Nat.le_of_ble_eq_true rfl) (fun P188888 F188882 γ el dc188889 ds188890 hq188891 => ?_)
    obtain ⟨hk188892, x0188893, h2188894, hel188895, hot188896, h16188897, h18188898, hnu188899, hFx188900, hr188901, hM188902, hBB188903⟩ := hq188891
    have hk188904 := rSk_of hk188892
    have r188905 : (fI (F188882 q188661) 3).toInt = (fI (F188849 q188661) 3).toInt := by rw [rSk_F hk188904 ht188753 (by decide) (by decide)]
    have hT188906 := hk188904.1
    have hs188907 := rSk_tr hs188856 hk188904 (by decide) (by decide) (by decide)
    have r188908 := rSk_F hk188904 ht188752 (by decide) (by decide)
    have ht188909 : rKd γ q188660 10 := rSk_k hk188904 ht188752 (by decide) (by decide)
    have ht188910 : rKd γ q188661 9 := rSk_k hk188904 ht188753 (by decide) (by decide)
    have hf188911 : γ 1 q188661 = f := rSk_1 hk188904 ht188753 (by decide) hf188754
    have ht188912 : rKd γ q188662 2 := rSk_k hk188904 ht188755 (by decide) (by decide)
    have hf188913 : γ 1 q188662 = f := rSk_1 hk188904 ht188755 (by decide) hf188756
    have ht188914 : rKd γ q188859 3 := rSk_k hk188904 ht188863 (by decide) (by decide)
    have hf188915 : γ 1 q188859 = f := rSk_1 hk188904 ht188863 (by decide) hf188872
    have r188916 := (rSk_s hk188904 ht188753 (by decide)).2.1
    have r188917 := hot188896 _ (by rw [rc188881.2.1]; decide) (fun q => by rw [q, show _ = 3 from ht188863] at rc188881; exact absurd rc188881.2.1 (by decide))
    have r188918 : jx188665 < γ 2 (γ 14 q188661) := by rw [r188916, r188917.1]; exact r188759
    have r188919 : el (γ 14 q188661) jx188665 = q188662 := by rw [r188916, r188917.2]; exact r188760
    clear bp188825 bp188826 bp188829 bp188830 bp188831 bp188827 bp188828 bp188861 bp188862 r188870 r188871 rg188878 rm188879 bd188880 rc188881 r188884 r188885
    clear r188832 r188833 r188834 r188868
    have hm188920 : q188660 ∈ P188888 := RS_m hT188906 ht188909 (by decide)
    obtain ⟨q188922, q188923, p188924, p188925, p188926, p188927, p188928, p188929, p188930, p188931, p188932, p188933, p188934, p188935, p188936, p188937, p188938, he188921, hB188965, ht188939, ht188940, ht188941, ht188942, ht188943, ht188944, ht188945, ht188946, ht188947, ht188948, ht188949, ht188950, ht188951, ht188952, ht188953, ht188954, ht188955, ht188956, ht188957, ht188958, ht188959, ht188960, ht188961, ht188962, hB188966⟩ := show rk_10 γ (F188882 q188660) from RS_o hT188906 ht188909
    have r188967 : p188926.toInt = p188767.toInt := by have z : p188926 = p188767 := congrArg (fun e => fI e 11) (he188921.symm.trans (r188908.trans he188852)); rw [z]
    have bp188926 : gB p188926 0 100 := (hB188965.2.2.1)
    have r188968 : p188929.toInt = p188770.toInt := by have z : p188929 = p188770 := congrArg (fun e => fI e 14) (he188921.symm.trans (r188908.trans he188852)); rw [z]
    have bp188929 : gB p188929 0 2000 := (hB188965.2.2.2.1)
    have bp188929' : gB p188929 0 1999 := ⟨by omega, by omega⟩
    obtain ⟨nu188969, nu188970, nu188971, nu188972⟩ := hnu188899
    have ht188973 : rKd γ q188726 1 := x0188893
    have hB188974 : rBd γ el f B := hBB188903 B hB188818
    have hph188975 : rPh γ0 el0 f ≤ rPh γ el f := rm_ph hph188821 hr188901.2
    have pk188976 : rPh γ el f ≤ 387 * B + 6000 := rm_pk (rM_ge hT188906 ht188910 hf188911).1 (rM_bd hB188974)
    refine G_widen (cs' := ((rPh γ el f - rPh γ0 el0 f) / 18)) (sl' := (rPh γ el f - rPh γ0 el0 f)) (rm_wc hph188821 hr188901.1) (rm_ws hph188821 hr188901.2) ?_
    refine G_aload_n 1 dr_cX17_load_51 rfl ?_
    refine G_dup dr_cX17_load_52 rfl ?_
    refine Gp_get 14 hm188920 he188921 dr_cX17_load_53 (gk_X17 D I) (Nat.le_of_ble_eq_true rfl) wr_7_88 rfl ?_
    refine G_iconst 1 dr_cX17_load_56 (by decide +kernel) ?_
    refine G_iadd dr_cX17_load_57 (G_nam fun z188977 hz188977 => ?_)
    have ez188977 : z188977.toInt = p188929.toInt + 1 := by rw [gI_add hz188977 bp188929' (gBl (show Int32.toInt 1 = 1 by decide)) (by decide) (by decide), show Int32.toInt 1 = 1 from by decide]
    have bz188977 : gB z188977 1 2000 := gB_add (gI_add hz188977 bp188929' (gBl (show Int32.toInt 1 = 1 by decide)) (by decide) (by decide)) bp188929' (gBl (show Int32.toInt 1 = 1 by decide)) (by decide) (by decide)
    refine Gp_put 14 hm188920 he188921 dr_cX17_load_58 (gk_X17 D I) (Nat.le_of_ble_eq_true rfl) wr_7_88 rfl rfl rfl (Nat.le_of_ble_eq_true rfl) (fun F188978 e188979 n188980 => ?_)
    have he188981 : F188978 q188660 = .inr (22, [.ref (γ 9 0), .ref (γ 9 1), .ref (γ 9 2), .ref (γ 9 3), .ref (γ 9 4), .ref (γ 9 5), .ref (γ 9 6), .ref (γ 9 7), .ref (γ 9 8), .int p188924, .int p188925, .int p188926, .int p188927, .int p188928, .int z188977, .ref (γ 9 15), .ref (γ 9 16), .ref (γ 9 17), .ref (γ 9 18), .ref (γ 9 19), .ref (γ 9 20), .ref (γ 9 21), .ref (γ 9 22), .int p188930, .int p188931, .int p188932, .int p188933, .int p188934, .ref q188922, .ref (γ 9 29), .int p188935, .ref (γ 9 31), .int p188936, .int p188937, .int p188938, .ref q188923]) := e188979
    refine G_aload 0 dr_cX17_load_61 rfl ?_
    have hT188982 : RS D I P188888 F188978 γ el := RS_set hT188906 n188980 ht188909 (by decide) ⟨q188922, q188923, p188924, p188925, p188926, p188927, p188928, z188977, p188930, p188931, p188932, p188933, p188934, p188935, p188936, p188937, p188938, he188981, ⟨(hB188965.1), (hB188965.2.1), bp188926, (gB_w bz188977 (by decide) (by decide)), (hB188965.2.2.2.2.1), (hB188965.2.2.2.2.2.1), (hB188965.2.2.2.2.2.2.1), (hB188965.2.2.2.2.2.2.2.1), (hB188965.2.2.2.2.2.2.2.2)⟩, ht188939, ht188940, ht188941, ht188942, ht188943, ht188944, ht188945, ht188946, ht188947, ht188948, ht188949, ht188950, ht188951, ht188952, ht188953, ht188954, ht188955, ht188956, ht188957, ht188958, ht188959, ht188960, ht188961, ht188962, hB188966⟩
    have hs188983 := rSk_put hs188907 hT188982 n188980 ht188909 (by decide) (by decide)
    have hm188984 : q188726 ∈ P188888 := RS_m hT188982 ht188973 (by decide)
    obtain ⟨p188986, p188987, p188988, p188989, p188990, p188991, p188992, he188985, bp188986, bp188987, bp188990, bp188991, bp188992, r188993, r188994, r188995, r188996⟩ := show rk_1 γ q188726 (F188978 q188726) from RS_o hT188982 ht188973
    have bp188988 := gB_any p188988
    have bp188989 := gB_any p188989
    refine Gp_get 1 hm188984 he188985 dr_cX17_load_63 (gk_X15 D I) (Nat.le_of_ble_eq_true rfl) wr_9_182 rfl ?_
    exact G_iretA dr_cX17_load_66 rfl (show ((rPh γ el f - rPh γ0 el0 f) / 18) ≤ (((387 * B + 6000) - rPh γ0 el0 f) / 18) by omega) (show (rPh γ el f - rPh γ0 el0 f) ≤ ((387 * B + 6000) - rPh γ0 el0 f) by omega) ⟨P188888, F188978, γ, el, p188987, rfl, rfl, hs188983, ⟨by omega, by omega⟩, hB188974, (gB_w bp188987 (by decide) (by decide))⟩
  · have r188997 : p188680.toInt = 2000 := gj_eq hc188718 (show Int32.toInt 2000 = 2000 by decide)
    have bp188680' : gB p188680 2000 2000 := ⟨by omega, by omega⟩
    refine G_iconst (-1) dr_cX17_load_10 (by decide +kernel) ?_
    exact G_iretA dr_cX17_load_11 rfl (show ((rPh γ el f - rPh γ0 el0 f) / 18) ≤ (((387 * B + 6000) - rPh γ0 el0 f) / 18) by omega) (show (rPh γ el f - rPh γ0 el0 f) ≤ ((387 * B + 6000) - rPh γ0 el0 f) by omega) ⟨P188658, F188659, γ, el, (-1), rfl, rfl, hst, ⟨by omega, by omega⟩, hB, (gB_w (gBl (show Int32.toInt (-1) = (-1) by decide)) (by decide) (by decide))⟩
abbrev ky_189008_Code_copy : gKey := (cX13_copy, 7, "SpillForgeModel$Code", none, [], "copy", fun _ _ => True)
def pg_189008_Code_copy (D : va_G) (I : FieldType → ClassId) (γ0 el0 : Nat → Nat → Nat) (f : Nat) (fo : Nat) (B : Nat) (P189001 : List Nat) (F189002 : Nat → va_E) (q189003 : Nat) (q189004 : Nat) : Option Value → va_W → Nat → Nat → Prop := fun r w dc ds => ∃ (P203302 : List Nat) (F203303 : Nat → va_E) (γ el : Nat → Nat → Nat), r = none ∧ w = va_pl P203302 F203303 ∧ rSk f [1, 2, 3, 101, 102, 103, 202] ([1, 2, 3, 4, 5, 6, 7, 8, 9, 101, 102, 103, 202]) D I P189001 F189002 γ0 el0 P203302 F203303 γ el ∧ (18 * dc + rPh γ0 el0 f ≤ rPh γ el f ∧ ds + rPh γ0 el0 f ≤ rPh γ el f) ∧ rBd γ el f B ∧ γ 6 f = γ0 6 fo ∧ γ 7 f = 0 ∧ γ 16 f ≤ γ0 16 fo ∧ γ 18 f = 0
set_option maxRecDepth 100000 in
set_option maxHeartbeats 1500000 in
theorem cg_189008_Code_copy (l : Launch) (hl0 : l.stackTraces = false) (D : va_G) (I : FieldType → ClassId) (γ0 el0 : Nat → Nat → Nat) (f : Nat) (fo : Nat) (B : Nat) (P189001 : List Nat) (F189002 : Nat → va_E) (q189003 : Nat) (q189004 : Nat) (hT0 : RS D I P189001 F189002 γ0 el0) (hzq189003 : rKd γ0 q189003 9) (hzq189004 : rKd γ0 q189004 9) (hf0 : γ0 1 q189003 = f) (hfo0 : γ0 1 q189004 = fo) (hne : fo ≠ f) (hB0 : rBd γ0 el0 f B) (hBk : B ≤ 100000) (x189005 : 0 < γ0 6 fo) (x189006 : γ0 7 fo = 0) (x189007 : γ0 16 fo ≤ B) : CtA (gV D I) l yX13_copy cX13_copy 7 none 8 170 (((387 * B + 6000) - rPh γ0 el0 f) / 18) ((387 * B + 6000) - rPh γ0 el0 f) [.ref q189003, .ref q189004] (va_pl P189001 F189002) (pg_189008_Code_copy D I γ0 el0 f fo B P189001 F189002 q189003 q189004) gNA := by
  refine CtA_of hl0 (by decide) (Nat.le_of_ble_eq_true rfl) ?_
  obtain ⟨γ, hγ0⟩ : ∃ z, z = γ0 := ⟨_, rfl⟩
  obtain ⟨el, hel0⟩ : ∃ z, z = el0 := ⟨_, rfl⟩
  have hT : RS D I P189001 F189002 γ el := by rw [hγ0, hel0]; exact hT0
  have hst : rSk f [1, 2, 3, 101, 102, 103, 202] ([1, 2, 3, 4, 5, 6, 7, 8, 9, 101, 102, 103, 202]) D I P189001 F189002 γ0 el0 P189001 F189002 γ el := by rw [hγ0, hel0]; exact rSk_rf hT0
  have hph : rPh γ0 el0 f ≤ rPh γ el f := by rw [hγ0, hel0]; exact Nat.le_refl _
  have hB : rBd γ el f B := by rw [hγ0, hel0]; exact hB0
  have htq189003 : rKd γ q189003 9 := by rw [hγ0]; exact hzq189003
  have htq189004 : rKd γ q189004 9 := by rw [hγ0]; exact hzq189004
  have hf1 : γ 1 q189003 = f := by rw [hγ0]; exact hf0
  have hfo1 : γ 1 q189004 = fo := by rw [hγ0]; exact hfo0
  have x189005n : 0 < γ 6 fo := by rw [hγ0]; exact x189005
  have x189006n : γ 7 fo = 0 := by rw [hγ0]; exact x189006
  have x189007n : γ 16 fo ≤ B := by rw [hγ0]; exact x189007
  have pk189009 : rPh γ el f ≤ 387 * B + 6000 := rm_pk (rM_ge hT htq189003 hf1).1 (rM_bd hB)
  refine G_widen (cs' := ((rPh γ el f - rPh γ0 el0 f) / 18)) (sl' := (rPh γ el f - rPh γ0 el0 f)) (Nat.zero_le _) (Nat.zero_le _) ?_
  have r189010 := rSk_g hst hne
  have r189011 : 0 < γ 6 (γ 1 q189004) := by rw [hfo1, r189010.1]; exact x189005
  have r189012 : γ 6 fo = γ0 6 fo := r189010.1
  have r189013 : γ 7 fo = 0 := by rw [r189010.2.1]; exact x189006
  refine G_aload_n 0 dr_cX13_copy_0 rfl ?_
  have rg189014 := rM_ge hT htq189003 hf1
  have rm189015 := rM_bd hB
  have bd189016 := rBd_c hT htq189003 hf1 hB
  refine Gt_beg (c := q189003) (f := f) (γ0 6 fo) hl0 dr_cX13_copy_1 ⟨wr_10_136, wr_1_15, wr_9_88, by decide, rfl, (Nat.le_of_ble_eq_true rfl), (Nat.le_of_ble_eq_true rfl)⟩ wr_9_86 wr_9_87 hT htq189003 hf1 (rm_zc pk189009) (rm_zs pk189009) (Nat.le_of_ble_eq_true rfl) (fun F189017 γ el hq189018 => ?_)
  obtain ⟨hk189019, h6189020, h7189021, h16189022, h18189023, h19189024, h23189025, h2189026, hel189027, hmd189028, hr189029, hM189030, hBB189031⟩ := hq189018
  have hk189032 := rSk_of hk189019
  have hT189033 := hk189032.1
  have hs189034 := rSk_tr hst hk189032 (by decide) (by decide) (by decide)
  have ht189035 : rKd γ q189003 9 := rSk_k hk189032 htq189003 (by decide) (by decide)
  have hf189036 : γ 1 q189003 = f := rSk_1 hk189032 htq189003 (by decide) hf1
  have ht189037 : rKd γ q189004 9 := rSk_kf hk189032 htq189004 (by decide) (by rw [hfo1]; exact hne)
  have hf189038 : γ 1 q189004 = fo := rSk_1 hk189032 htq189004 (by decide) hfo1
  clear rg189014 rm189015 bd189016
  have r189039 := rSk_g hs189034 hne
  have r189040 : 0 < γ 6 (γ 1 q189004) := by rw [hf189038, r189039.1]; exact x189005
  have r189041 : γ 6 fo = γ0 6 fo := r189039.1
  have r189042 : γ 7 fo = 0 := by rw [r189039.2.1]; exact x189006
  have hB189043 : rBd γ el f B := hBB189031 B hB
  have hph189044 : rPh γ0 el0 f ≤ rPh γ el f := by rw [hr189029]; exact hph
  have pk189045 : rPh γ el f ≤ 387 * B + 6000 := rm_pk (rM_ge hT189033 ht189035 hf189036).1 (rM_bd hB189043)
  refine G_widen (cs' := ((rPh γ el f - rPh γ0 el0 f) / 18)) (sl' := (rPh γ el f - rPh γ0 el0 f)) (rm_ec hr189029) (rm_es hr189029) ?_
  refine G_iconst 0 dr_cX13_copy_4 (by decide +kernel) ?_
  refine G_istore_n (L' := [(2, .int 0), (0, .ref q189003), (1, .ref q189004)]) dr_cX13_copy_5 (Nat.le_of_ble_eq_true rfl) rfl ?_
  have hlp6_202233 : ∀ (n6_202233 : Nat) (P202220 : List Nat) (F202221 : Nat → va_E) (γ el : Nat → Nat → Nat) (g202219 : Int32), gB g202219 0 1000000 → RS D I P202220 F202221 γ el → rSk f [1, 2, 3, 101, 102, 103, 202] ([1, 2, 3, 4, 5, 6, 7, 8, 9, 101, 102, 103, 202]) D I P189001 F189002 γ0 el0 P202220 F202221 γ el → rPh γ0 el0 f ≤ rPh γ el f → rBd γ el f B → γ 6 f = 0 → γ 19 f = γ0 6 fo → γ 18 f = 0 → γ 7 f = 0 → (fI (F202221 q189003) 3).toInt = g202219.toInt → rKb γ el q189003 (g202219.toInt : Int).toNat → γ 16 f ≤ rsum (fun i => γ0 2 (γ0 14 (el0 (γ0 14 q189004) i))) (g202219.toInt : Int).toNat → (g202219.toInt : Int) ≤ γ0 6 fo → (γ0 6 fo - (g202219.toInt : Int).toNat) < n6_202233 → G (gV D I) l (gRm 8 170 (((387 * B + 6000) - rPh γ0 el0 f) / 18) ((387 * B + 6000) - rPh γ0 el0 f)) (gMA (gV D I) (pg_189008_Code_copy D I γ0 el0 f fo B P189001 F189002 q189003 q189004) gNA (((387 * B + 6000) - rPh γ0 el0 f) / 18) ((387 * B + 6000) - rPh γ0 el0 f)) ky_189008_Code_copy 6 [(2, .int g202219), (0, .ref q189003), (1, .ref q189004)] [] (va_pl P202220 F202221) ((rPh γ el f - rPh γ0 el0 f) / 18) (rPh γ el f - rPh γ0 el0 f) := by
    intro n6_202233
    induction n6_202233 with
    | zero => intro P202220 F202221 γ el g202219 bg202219 hT202222 hs202223 hph202224 hB202225 x202226 x202227 x202228 x202229 x202230 x202231 x202232 x202233 hm6_202233; exact absurd hm6_202233 (Nat.not_lt_zero _)
    | succ n6_202233 ih6_202233 =>
      intro P202220 F202221 γ el g202219 bg202219 hT202222 hs202223 hph202224 hB202225 x202226 x202227 x202228 x202229 x202230 x202231 x202232 x202233 hm6_202233
      clear h6189020 h7189021 h16189022 h18189023 h19189024 h23189025 h2189026 hmd189028 hr189029 hM189030 r189039 r189040 r189041 r189042 hph189044 pk189045
      have ht202235 : rKd γ q189003 9 := rSk_k hs202223 hzq189003 (by decide) (by decide)
      have hf202236 : γ 1 q189003 = f := rSk_1 hs202223 hzq189003 (by decide) hf0
      have ht202237 : rKd γ q189004 9 := rSk_k hs202223 hzq189004 (by decide) (by decide)
      have hf202238 : γ 1 q189004 = fo := rSk_1 hs202223 hzq189004 (by decide) hfo0
      have pk202239 : rPh γ el f ≤ 387 * B + 6000 := rm_pk (rM_ge hT202222 ht202235 hf202236).1 (rM_bd hB202225)
      have r202240 := rSk_g hs202223 hne
      have r202241 : 0 < γ 6 (γ 1 q189004) := by rw [hf202238, r202240.1]; exact x189005
      have r202242 : γ 6 fo = γ0 6 fo := r202240.1
      have r202243 : γ 7 fo = 0 := by rw [r202240.2.1]; exact x189006
      refine G_iload_n 0 dr_cX13_copy_6 rfl ?_
      refine G_aload_n 2 dr_cX13_copy_7 rfl ?_
      have hm202244 : q189004 ∈ P202220 := RS_m hT202222 ht202237 (by decide)
      obtain ⟨q202246, q202247, p202248, p202249, he202245, ht202265, ht202250, ht202251, ht202252, ht202253, r202254, r202255, r202256, r202257, r202258, r202259, r202260, r202261, r202262, r202263, r202264⟩ := show rk_9 γ el q189004 (F202221 q189004) from RS_o hT202222 ht202237
      have bp202248 : gB p202248 0 1000000 := ⟨by omega, by omega⟩
      have bp202249 : gB p202249 0 1000000 := ⟨by omega, by omega⟩
      have hf202266 : γ 1 q202246 = fo := (show γ 1 q202246 = γ 1 q189004 from ht202251).trans hf202238
      have hf202267 : γ 1 q202247 = fo := (show γ 1 q202247 = γ 1 q189004 from ht202253).trans hf202238
      have r202268 : γ 6 (γ 1 q189004) = γ 6 fo := by rw [hf202238]
      have r202269 : γ 16 (γ 1 q189004) = γ 16 fo := by rw [hf202238]
      have r202270 : p202249.toInt = γ 6 fo ∧ p202249.toInt ≤ 40 := by omega
      clear r202260
      refine Gw_callV (As := []) (gV_ok D I) (cp_12451_Code_size l hl0 D I P202220 F202221 q189004 q202246 q202247 p202248 p202249 hm202244 he202245) dr_cX13_copy_8 ⟨wr_10_137, wr_1_15, wr_9_131, by decide, rfl, (Nat.le_of_ble_eq_true rfl), (Nat.le_of_ble_eq_true rfl)⟩ wr_9_129 wr_9_130 hm202244 he202245 rfl (rm_zc pk202239) (rm_zs pk202239) (Nat.le_of_ble_eq_true rfl) (fun r202274 w202275 dc202271 ds202272 hp202273 => ?_) (fun _ _ _ _ _ z => z.elim)
      obtain ⟨rfl, rfl, hdc, hds⟩ := hp202273
      change G _ _ _ _ _ _ _ (.int p202249 :: _) _ _ _
      refine G_widen (cs' := ((rPh γ el f - rPh γ0 el0 f) / 18)) (sl' := (rPh γ el f - rPh γ0 el0 f)) (rm_d0 hdc) (rm_d0 hds) ?_
      refine G_icmp_ge 117 dr_cX13_copy_11 (by decide +kernel) (fun hc202276 => ?_) (fun hc202276 => ?_)
      · have r202277 : p202249.toInt ≤ g202219.toInt := gC_le hc202276
        have r202278 := RS_valid hT0 hzq189004 hfo0 x189005
        have r202279 : (g202219.toInt : Int).toNat = γ0 6 fo := by omega
        have kb202280 := x202231
        rw [r202279] at kb202280
        have hv202281 := St_val (f := f) (n := γ0 6 fo) hT202222 ht202235 hf202236 (by omega) x189005 (by omega) (by omega) (by omega) kb202280
        obtain ⟨γ, hg202282⟩ : ∃ z, z = gVal γ 6 f (γ0 6 fo) := ⟨_, rfl⟩
        rw [← hg202282] at hv202281
        have hk202283 := rSk_of hv202281.1
        have r202284 := hv202281.2.1
        have hT202285 := hk202283.1
        have hs202286 := rSk_tr hs202223 hk202283 (by decide) (by decide) (by decide)
        have ht202287 : rKd γ q189003 9 := rSk_k hk202283 ht202235 (by decide) (by decide)
        have hf202288 : γ 1 q189003 = f := rSk_1 hk202283 ht202235 (by decide) hf202236
        have ht202289 : rKd γ q189004 9 := rSk_kf hk202283 ht202237 (by decide) (by rw [hf202238]; exact hne)
        have hf202290 : γ 1 q189004 = fo := rSk_1 hk202283 ht202237 (by decide) hf202238
        have kb202291 : rKb γ el q189003 (g202219.toInt : Int).toNat := rKb_t x202231 hk202283 (by decide) (rSk_s hk202283 ht202235 (by decide)).2.1 (fun _ _ => rfl)
        clear r202254 r202255 r202256 r202257 r202258 r202259 r202261 r202262 r202263 r202264 bp202248 bp202249
        have r202292 := rSk_g hs202286 hne
        have r202293 : 0 < γ 6 (γ 1 q189004) := by rw [hf202290, r202292.1]; exact x189005
        have r202294 : γ 6 fo = γ0 6 fo := r202292.1
        have r202295 : γ 7 fo = 0 := by rw [r202292.2.1]; exact x189006
        have hB202296 : rBd γ el f B := hv202281.2.2.2 B hB202225
        have hph202297 : rPh γ0 el0 f ≤ rPh γ el f := by rw [r202284]; exact hph202224
        have pk202298 : rPh γ el f ≤ 387 * B + 6000 := rm_pk (rM_ge hT202285 ht202287 hf202288).1 (rM_bd hB202296)
        refine G_widen (cs' := ((rPh γ el f - rPh γ0 el0 f) / 18)) (sl' := (rPh γ el f - rPh γ0 el0 f)) (rm_ec r202284) (rm_es r202284) ?_
        have r202299 := gVal_n hg202282
        have r202300 := rsum_m (f := fun i => γ0 2 (γ0 14 (el0 (γ0 14 q189004) i))) _ (show (g202219.toInt : Int).toNat ≤ γ0 6 fo by omega)
        exact G_vretA dr_cX13_copy_117 rfl (show ((rPh γ el f - rPh γ0 el0 f) / 18) ≤ (((387 * B + 6000) - rPh γ0 el0 f) / 18) by omega) (show (rPh γ el f - rPh γ0 el0 f) ≤ ((387 * B + 6000) - rPh γ0 el0 f) by omega) ⟨P202220, F202221, γ, el, rfl, rfl, hs202286, ⟨by omega, by omega⟩, hB202296, (by omega), (by omega), (by omega), (by omega)⟩
      · have r202301 : g202219.toInt < p202249.toInt := gC_nle hc202276
        have bg202219' : gB g202219 0 999999 := ⟨by omega, by omega⟩
        have bp202249' : gB p202249 1 1000000 := ⟨by omega, by omega⟩
        refine G_aload_n 2 dr_cX13_copy_14 rfl ?_
        refine G_iload_n 0 dr_cX13_copy_15 rfl ?_
        have hm202302 : q202246 ∈ P202220 := RS_m hT202222 ht202250 (by decide)
        obtain ⟨⟨p202304, p202305, q202306, he202303, r202307, r202308, r202309, r202311⟩, r202310⟩ := show rk_4 D I γ el F202221 q202246 from RS_o hT202222 ht202250
        have bp202304 := gB_any p202304
        have bp202305 : gB p202305 0 1000000 := ⟨by omega, by omega⟩
        obtain ⟨r202312, r202313, n202320, f202321, r202314, r202315, r202316, r202317, r202318, r202319⟩ := rLC_n r202309 (by omega)
        have hm202322 : q202306 ∈ P202220 := RS_m hT202222 r202312 (by decide)
        obtain ⟨q202323, hx202324⟩ : ∃ x, x = el q202246 g202219.toInt.toNat := ⟨_, rfl⟩
        have hx202325 : f202321 g202219.toNatClampNeg = some q202323 := (r202318 _ (show g202219.toInt.toNat < γ 2 q202246 by first | assumption | omega)).trans (by rw [hx202324])
        have ht202328 : rKd γ q202323 2 := by rw [hx202324]; exact (r202261 _ (by omega)).resolve_right (fun z => absurd z.1 (by omega))
        have ht202329 : rFm γ q202323 q202246 := by rw [hx202324]; exact (r202310 _ (show g202219.toInt.toNat < γ 2 q202246 by omega)).2.1
        have hm202330 : q202323 ∈ P202220 := RS_m hT202222 ht202328 (by decide)
        obtain ⟨q202332, q202333, p202334, p202335, he202331, ht202342, ht202336, ht202337, ht202338, ht202339, ht202340, bp202334, bp202335, r202341, r202343, r202344⟩ := show rk_2 γ q202323 (F202221 q202323) from RS_o hT202222 ht202328
        refine Gw_callV (As := [.int g202219]) (gV_ok D I) (cp_7723_Code_get l hl0 D I P202220 F202221 q189004 q202246 q202306 g202219 q202247 p202248 p202249 p202304 p202305 f202321 n202320 q202323 q202332 q202333 p202334 p202335 hm202244 hm202302 hm202322 hm202330 he202245 he202303 r202314 he202331 (gB_w bg202219' (by decide) (by decide)) (gB_w bp202305 (by decide) (by decide)) (by omega) (by omega) (by assumption) (by omega)) dr_cX13_copy_16 ⟨wr_10_138, wr_1_15, wr_10_141, by decide, rfl, (Nat.le_of_ble_eq_true rfl), (Nat.le_of_ble_eq_true rfl)⟩ wr_10_139 wr_10_140 hm202244 he202245 rfl (rm_zc pk202239) (rm_zs pk202239) (Nat.le_of_ble_eq_true rfl) (fun r202348 w202349 dc202345 ds202346 hp202347 => ?_) (fun _ _ _ _ _ z => z.elim)
        obtain ⟨rfl, rfl, hdc, hds⟩ := hp202347
        change G _ _ _ _ _ _ _ (.ref q202323 :: _) _ _ _
        refine G_widen (cs' := ((rPh γ el f - rPh γ0 el0 f) / 18)) (sl' := (rPh γ el f - rPh γ0 el0 f)) (rm_d0 hdc) (rm_d0 hds) ?_
        have r202350 := RS_valid hT0 hzq189004 hfo0 x189005
        have r202351 := rSk_o (i := g202219.toInt.toNat) hT0 hs202223 hzq189004 (by rw [hfo0]; exact hne)
        have hx0202352 : q202323 = el0 (γ0 14 q189004) (g202219.toInt : Int).toNat := by rw [hx202324, ← ht202265.1, r202351.1, r202351.2.2.1]
        have hf202353 : γ 1 q202323 = fo := (show γ 1 q202323 = γ 1 q202246 from ht202329).trans ((show γ 1 q202246 = γ 1 q189004 from ht202251).trans hf202238)
        refine G_astore_n (L' := [(3, .ref q202323), (2, .int g202219), (0, .ref q189003), (1, .ref q189004)]) dr_cX13_copy_19 (Nat.le_of_ble_eq_true rfl) rfl ?_
        refine G_aload_n 2 dr_cX13_copy_20 rfl ?_
        have rg202354 := rM_ge hT202222 ht202235 hf202236
        have rm202355 := rM_bd hB202225
        have bd202356 := rBd_c hT202222 ht202235 hf202236 hB202225
        refine Gt_block (c := q189003) (f := f) hl0 dr_cX13_copy_21 ⟨wr_10_142, wr_1_15, wr_9_156, by decide, rfl, (Nat.le_of_ble_eq_true rfl), (Nat.le_of_ble_eq_true rfl)⟩ wr_9_154 wr_9_155 hT202222 ht202235 hf202236 (by omega) (Nat.le_trans bd202356.2.1 (by decide)) (rm_cs hph202224 rg202354.1 rm202355 (by decide)) (rm_sl hph202224 rg202354.1 rm202355 rm_s25) (Nat.le_of_ble_eq_true rfl) (fun P202357 F202358 γ el q202359 dc202360 ds202361 hq202362 => ?_)
        obtain ⟨hk202363, b0202364, b1202365, ⟨jb202366, j1202367, j2202368, j3202369, j4202370, j5202371, j6202372⟩, hz202373, h16202374, h18202375, hnu202376, hot202377, h45202378, ⟨hr1202379, hr2202380⟩, hM202381, hBB202382⟩ := hq202362
        have hk202383 := rSk_of hk202363
        have hT202384 := hk202383.1
        have hs202385 := rSk_tr hs202223 hk202383 (by decide) (by decide) (by decide)
        have ht202386 : rKd γ q189003 9 := rSk_k hk202383 ht202235 (by decide) (by decide)
        have hf202387 : γ 1 q189003 = f := rSk_1 hk202383 ht202235 (by decide) hf202236
        have ht202388 : rKd γ q189004 9 := rSk_kf hk202383 ht202237 (by decide) (by rw [hf202238]; exact hne)
        have hf202389 : γ 1 q189004 = fo := rSk_1 hk202383 ht202237 (by decide) hf202238
        have ht202390 : rKd γ q202323 2 := rSk_kf hk202383 ht202328 (by decide) (by rw [hf202353]; exact hne)
        have hf202391 : γ 1 q202323 = fo := rSk_1 hk202383 ht202328 (by decide) hf202353
        have kb202392 : rKb γ el q189003 (g202219.toInt : Int).toNat := rKb_t x202231 hk202383 (by decide) (rSk_s hk202383 ht202235 (by decide)).2.1 (fun i hi => j6202372 i (by omega))
        clear r202254 r202255 r202256 r202257 r202258 r202259 r202261 r202262 r202263 r202264 bp202248 bp202249 bp202334 bp202335 r202343 r202344 rg202354 rm202355 bd202356
        clear r202341
        have r202393 := rSk_g hs202385 hne
        have r202394 : 0 < γ 6 (γ 1 q189004) := by rw [hf202389, r202393.1]; exact x189005
        have r202395 : γ 6 fo = γ0 6 fo := r202393.1
        have r202396 : γ 7 fo = 0 := by rw [r202393.2.1]; exact x189006
        have r202398 := RS_valid hT0 hzq189004 hfo0 x189005
        have r202397 := (rSk_o (i := g202219.toInt.toNat) hT0 hs202385 hzq189004 (by rw [hfo0]; exact hne)).2.2.2 (by omega)
        rw [← hx0202352] at r202397
        have xs202399 : γ 2 (γ 14 q202323) = γ0 2 (γ0 14 q202323) := by rw [r202397.1]; exact r202397.2.1
        have hB202400 : rBd γ el f B := hBB202382 B (by omega) hB202225
        have r202401 := (rSk_s hk202383 ht202235 (by decide)).2.1
        obtain ⟨nu202402, nu202403, nu202404, nu202405⟩ := hnu202376
        have ht202406 : rKd γ q202359 202 := b0202364
        have r202407 : (g202219.toInt : Int).toNat = jb202366 := by omega
        have r202408 : (g202219.toInt : Int).toNat < γ 2 (γ 14 q189003) := by rw [r202401, r202407]; exact j3202369
        have r202409 : el (γ 14 q189003) (g202219.toInt : Int).toNat = q202359 := by rw [r202401, r202407]; exact j4202370
        have hph202410 : rPh γ0 el0 f ≤ rPh γ el f := rm_ph hph202224 hr2202380
        have pk202411 : rPh γ el f ≤ 387 * B + 6000 := rm_pk (rM_ge hT202384 ht202386 hf202387).1 (rM_bd hB202400)
        refine G_widen (cs' := ((rPh γ el f - rPh γ0 el0 f) / 18)) (sl' := (rPh γ el f - rPh γ0 el0 f)) (rm_wc hph202224 hr1202379) (rm_ws hph202224 hr2202380) ?_
        refine G_astore (L' := [(4, .ref q202359), (3, .ref q202323), (2, .int g202219), (0, .ref q189003), (1, .ref q189004)]) dr_cX13_copy_24 (Nat.le_of_ble_eq_true rfl) rfl ?_
        refine G_iconst 0 dr_cX13_copy_26 (by decide +kernel) ?_
        refine G_istore (L' := [(5, .int 0), (4, .ref q202359), (3, .ref q202323), (2, .int g202219), (0, .ref q189003), (1, .ref q189004)]) dr_cX13_copy_27 (Nat.le_of_ble_eq_true rfl) rfl ?_
        have hlp29_202875 : ∀ (n29_202875 : Nat) (P202854 : List Nat) (F202855 : Nat → va_E) (γ el : Nat → Nat → Nat) (g202853 : Int32), gB g202853 0 1000000 → RS D I P202854 F202855 γ el → rSk f [1, 2, 3, 101, 102, 103, 202] ([1, 2, 3, 4, 5, 6, 7, 8, 9, 101, 102, 103, 202]) D I P189001 F189002 γ0 el0 P202854 F202855 γ el → rPh γ0 el0 f ≤ rPh γ el f → rBd γ el f B → rKd γ q202359 202 → γ 1 q202359 = f → (g202219.toInt : Int).toNat < γ 2 (γ 14 q189003) → el (γ 14 q189003) (g202219.toInt : Int).toNat = q202359 → rKd γ q202323 2 → γ 1 q202323 = fo → γ 6 f = 0 → γ 19 f = γ0 6 fo → γ 18 f = 0 → γ 7 f = 0 → (fI (F202855 q189003) 3).toInt = g202219.toInt + 1 → rKb γ el q189003 (g202219.toInt : Int).toNat → γ 16 f ≤ rsum (fun i => γ0 2 (γ0 14 (el0 (γ0 14 q189004) i))) (g202219.toInt : Int).toNat + (g202853.toInt : Int).toNat → (g202219.toInt : Int) < γ0 6 fo → q202323 = el0 (γ0 14 q189004) (g202219.toInt : Int).toNat → (g202853.toInt : Int) ≤ γ0 2 (γ0 14 q202323) → (γ0 2 (γ0 14 q202323) - (g202853.toInt : Int).toNat) < n29_202875 → G (gV D I) l (gRm 8 170 (((387 * B + 6000) - rPh γ0 el0 f) / 18) ((387 * B + 6000) - rPh γ0 el0 f)) (gMA (gV D I) (pg_189008_Code_copy D I γ0 el0 f fo B P189001 F189002 q189003 q189004) gNA (((387 * B + 6000) - rPh γ0 el0 f) / 18) ((387 * B + 6000) - rPh γ0 el0 f)) ky_189008_Code_copy 29 [(5, .int g202853), (4, .ref q202359), (3, .ref q202323), (2, .int g202219), (0, .ref q189003), (1, .ref q189004)] [] (va_pl P202854 F202855) ((rPh γ el f - rPh γ0 el0 f) / 18) (rPh γ el f - rPh γ0 el0 f) := by
          intro n29_202875
          induction n29_202875 with
          | zero => intro P202854 F202855 γ el g202853 bg202853 hT202856 hs202857 hph202858 hB202859 ht202860 hf202861 r202862 r202863 ht202864 hf202865 x202866 x202867 x202868 x202869 x202870 x202871 x202872 x202873 x202874 x202875 hm29_202875; exact absurd hm29_202875 (Nat.not_lt_zero _)
          | succ n29_202875 ih29_202875 =>
            intro P202854 F202855 γ el g202853 bg202853 hT202856 hs202857 hph202858 hB202859 ht202860 hf202861 r202862 r202863 ht202864 hf202865 x202866 x202867 x202868 x202869 x202870 x202871 x202872 x202873 x202874 x202875 hm29_202875
            clear r202268 r202269 r202270 r202307 r202308 r202309 r202311 r202310 r202312 r202313 r202314 r202315 r202316 r202317 r202318 r202319 r202350 r202351 j1202367 j2202368 j3202369 j5202371 h16202374 h18202375 hr1202379 hr2202380 hM202381 r202393 r202394 r202395 r202396 r202398 r202397 r202401 nu202402 nu202403 nu202404 nu202405 r202407 r202408 r202409 hph202410 pk202411
            have ht202877 : rKd γ q189003 9 := rSk_k hs202857 hzq189003 (by decide) (by decide)
            have hf202878 : γ 1 q189003 = f := rSk_1 hs202857 hzq189003 (by decide) hf0
            have ht202879 : rKd γ q189004 9 := rSk_k hs202857 hzq189004 (by decide) (by decide)
            have hf202880 : γ 1 q189004 = fo := rSk_1 hs202857 hzq189004 (by decide) hfo0
            have pk202881 : rPh γ el f ≤ 387 * B + 6000 := rm_pk (rM_ge hT202856 ht202877 hf202878).1 (rM_bd hB202859)
            have r202882 := rSk_g hs202857 hne
            have r202883 : 0 < γ 6 (γ 1 q189004) := by rw [hf202880, r202882.1]; exact x189005
            have r202884 : γ 6 fo = γ0 6 fo := r202882.1
            have r202885 : γ 7 fo = 0 := by rw [r202882.2.1]; exact x189006
            have r202887 := RS_valid hT0 hzq189004 hfo0 x189005
            have r202886 := (rSk_o (i := g202219.toInt.toNat) hT0 hs202857 hzq189004 (by rw [hfo0]; exact hne)).2.2.2 (by omega)
            rw [← x202874] at r202886
            have xs202888 : γ 2 (γ 14 q202323) = γ0 2 (γ0 14 q202323) := by rw [r202886.1]; exact r202886.2.1
            refine G_iload 0 dr_cX13_copy_29 rfl ?_
            refine G_aload_n 2 dr_cX13_copy_31 rfl ?_
            have hm202889 : q202323 ∈ P202854 := RS_m hT202856 ht202864 (by decide)
            obtain ⟨q202891, q202892, p202893, p202894, he202890, ht202901, ht202895, ht202896, ht202897, ht202898, ht202899, bp202893, bp202894, r202900, r202902, r202903⟩ := show rk_2 γ q202323 (F202855 q202323) from RS_o hT202856 ht202864
            have hf202904 : γ 1 q202891 = fo := (show γ 1 q202891 = γ 1 q202323 from ht202896).trans hf202865
            have hf202905 : γ 1 q202892 = fo := (show γ 1 q202892 = γ 1 q202323 from ht202898).trans hf202865
            have r202906 : γ 6 (γ 1 q202323) = γ 6 fo := by rw [hf202865]
            have r202907 : γ 7 (γ 1 q202323) = γ 7 fo := by rw [hf202865]
            have r202908 : γ 19 (γ 1 q202323) = γ 19 fo := by rw [hf202865]
            have r202909 := r202900.resolve_left (by omega)
            clear r202900
            have r202910 : γ 2 (γ 14 q202323) = γ 2 q202891 := by rw [ht202901.1]
            refine Gp_get 0 hm202889 he202890 dr_cX13_copy_32 (gk_X12 D I) (Nat.le_of_ble_eq_true rfl) wr_9_219 rfl ?_
            have hm202911 : q202891 ∈ P202854 := RS_m hT202856 ht202895 (by decide)
            obtain ⟨⟨p202913, p202914, q202915, he202912, r202916, r202917, r202918, r202920⟩, r202919⟩ := show rk_3 D I γ el F202855 q202891 from RS_o hT202856 ht202895
            have bp202913 := gB_any p202913
            have bp202914 : gB p202914 0 1000000 := ⟨by omega, by omega⟩
            refine Gw_callV (As := []) (gV_ok D I) (cp_7_ArrayList_size l hl0 D I P202854 F202855 q202891 p202913 q202915 p202914 hm202911 he202912 (gB_w bp202914 (by decide) (by decide))) dr_cX13_copy_35 ⟨wr_9_157, wr_1_18, wr_9_160, by decide, rfl, (Nat.le_of_ble_eq_true rfl), (Nat.le_of_ble_eq_true rfl)⟩ wr_9_158 wr_9_159 hm202911 he202912 rfl (rm_zc pk202881) (rm_zs pk202881) (Nat.le_of_ble_eq_true rfl) (fun r202924 w202925 dc202921 ds202922 hp202923 => ?_) (fun _ _ _ _ _ z => z.elim)
            obtain ⟨rfl, rfl, hdc, hds⟩ := hp202923
            change G _ _ _ _ _ _ _ (.int p202914 :: _) _ _ _
            refine G_widen (cs' := ((rPh γ el f - rPh γ0 el0 f) / 18)) (sl' := (rPh γ el f - rPh γ0 el0 f)) (rm_d0 hdc) (rm_d0 hds) ?_
            refine G_icmp_ge 81 dr_cX13_copy_38 (by decide +kernel) (fun hc202926 => ?_) (fun hc202926 => ?_)
            · have r202927 : p202914.toInt ≤ g202853.toInt := gC_le hc202926
              refine G_aload 1 dr_cX13_copy_81 rfl ?_
              have hm202928 : q202359 ∈ P202854 := RS_m hT202856 ht202860 (by decide)
              obtain ⟨q202930, q202931, p202932, p202933, he202929, ht202939, ht202934, ht202935, ht202936, ht202937, ht202938, bp202932, bp202933⟩ := show rk_202 γ q202359 (F202855 q202359) from RS_o hT202856 ht202860
              have hf202940 : γ 1 q202930 = f := (show γ 1 q202930 = γ 1 q202359 from ht202935).trans hf202861
              have hf202941 : γ 1 q202931 = f := (show γ 1 q202931 = γ 1 q202359 from ht202937).trans hf202861
              have r202942 : γ 6 (γ 1 q202359) = γ 6 f := by rw [hf202861]
              have r202943 : γ 7 (γ 1 q202359) = γ 7 f := by rw [hf202861]
              have r202944 : γ 19 (γ 1 q202359) = γ 19 f := by rw [hf202861]
              have r202945 : γ 2 (γ 14 q202359) = γ 2 q202930 := by rw [ht202939.1]
              refine Gp_get 1 hm202928 he202929 dr_cX13_copy_83 (gk_X12 D I) (Nat.le_of_ble_eq_true rfl) wr_9_224 rfl ?_
              refine G_aload_n 2 dr_cX13_copy_86 rfl ?_
              refine Gp_get 1 hm202889 he202890 dr_cX13_copy_87 (gk_X12 D I) (Nat.le_of_ble_eq_true rfl) wr_9_224 rfl ?_
              have hm202946 : q202931 ∈ P202854 := RS_m hT202856 ht202936 (by decide)
              obtain ⟨p202948, p202949, p202950, p202951, p202952, p202953, p202954, he202947, bp202948, bp202949, bp202952, bp202953, bp202954, r202955, r202956, r202957⟩ := show rkR (F202855 q202931) from RS_o hT202856 ht202936
              have bp202950 := gB_any p202950
              have bp202951 := gB_any p202951
              have r202958 : γ 7 (γ 1 q202931) = γ 7 f := by rw [hf202941]
              have hm202959 : q202892 ∈ P202854 := RS_m hT202856 ht202897 (by decide)
              obtain ⟨p202961, p202962, p202963, p202964, p202965, p202966, p202967, he202960, bp202961, bp202962, bp202965, bp202966, bp202967, r202968, r202969, r202970, r202971⟩ := show rk_1 γ q202892 (F202855 q202892) from RS_o hT202856 ht202897
              have bp202963 := gB_any p202963
              have bp202964 := gB_any p202964
              have r202972 : γ 7 (γ 1 q202892) = γ 7 fo := by rw [hf202905]
              refine Gw_callV (As := [.ref q202892]) (gV_ok D I) (cp_1722_Row_put l hl0 D I P202854 F202855 q202931 q202892 p202948 p202949 p202950 p202951 p202952 p202953 p202954 p202961 p202962 p202963 p202964 p202965 p202966 p202967 hm202946 hm202959 he202947 he202960 (rn_ty ht202936 ht202897 (by decide)) bp202948 bp202949 bp202952 bp202953 bp202954 bp202961 bp202962 bp202965 bp202966 bp202967) dr_cX13_copy_90 ⟨wr_10_144, wr_1_39, wr_10_147, by decide, rfl, (Nat.le_of_ble_eq_true rfl), (Nat.le_of_ble_eq_true rfl)⟩ wr_10_145 wr_10_146 hm202946 he202947 rfl (rm_zc pk202881) (rm_zs pk202881) (Nat.le_of_ble_eq_true rfl) (fun r202976 w202977 dc202973 ds202974 hp202975 => ?_) (fun _ _ _ _ _ z => z.elim)
              obtain ⟨F202978, rfl, rfl, hfr202980, he202981, he202982, hdc, hds⟩ := hp202975
              have he202983 : F202978 q202323 = .inr (17, [.ref q202891, .ref q202892, .int p202893, .int p202894]) := (hfr202980 q202323 hm202889 (nm_c (rn_oo he202890 he202947 (by decide)) nm_n)).trans he202890
              have he202984 : F202978 q202891 = .inr (4, [.int p202913, .ref q202915, .int p202914]) := (hfr202980 q202891 hm202911 (nm_c (rn_oo he202912 he202947 (by decide)) nm_n)).trans he202912
              have he202985 : F202978 q202359 = .inr (17, [.ref q202930, .ref q202931, .int p202932, .int p202933]) := (hfr202980 q202359 hm202928 (nm_c (rn_oo he202929 he202947 (by decide)) nm_n)).trans he202929
              have hfr202986 : rFr [q202931] P202854 F202855 F202978 := rFr_call (rSub_rf (P := P202854)) (rFr_rf (W := []) (P := P202854) (F := F202855)) hfr202980 (fun b hb hn => ⟨nm_n, (nm_c (fun e => hn (e ▸ List.mem_cons_self)) nm_n)⟩)
              change G _ _ _ _ _ _ _ _ _ _ _
              refine G_widen (cs' := ((rPh γ el f - rPh γ0 el0 f) / 18)) (sl' := (rPh γ el f - rPh γ0 el0 f)) (rm_d0 hdc) (rm_d0 hds) ?_
              have hT202987 : RS D I P202854 F202978 γ el := RS_fr hT202856 hfr202986 ht202936 (by decide) ⟨p202961, p202962, p202963, p202964, p202965, p202966, p202967, he202981, bp202961, bp202962, bp202965, bp202966, bp202967, r202968, r202969, r202970⟩
              have hs202988 := rSk_fr hs202857 hT202987 hfr202986 ht202936 (by decide) (by decide)
              have md202989 : (fI (F202978 q189003) 3).toInt = (fI (F202855 q189003) 3).toInt := by rw [hfr202986 q189003 (RS_m hT202856 ht202877 (by decide)) (nm_c (rn_ty ht202877 ht202936 (by decide)) nm_n)]
              refine G_aload 1 dr_cX13_copy_93 rfl ?_
              refine G_aload_n 2 dr_cX13_copy_95 rfl ?_
              refine Gp_get 2 hm202889 he202983 dr_cX13_copy_96 (gk_X12 D I) (Nat.le_of_ble_eq_true rfl) wr_9_227 rfl ?_
              refine Gp_put 2 hm202928 he202985 dr_cX13_copy_99 (gk_X12 D I) (Nat.le_of_ble_eq_true rfl) wr_9_227 rfl rfl rfl (Nat.le_of_ble_eq_true rfl) (fun F202990 e202991 n202992 => ?_)
              have he202993 : F202990 q202323 = .inr (17, [.ref q202891, .ref q202892, .int p202893, .int p202894]) := (n202992 q202323 (rn_ty ht202864 ht202860 (by decide))).trans he202983
              have he202994 : F202990 q202891 = .inr (4, [.int p202913, .ref q202915, .int p202914]) := (n202992 q202891 (rn_oo he202984 he202985 (by decide))).trans he202984
              have he202995 : F202990 q202931 = .inr (20, [.int p202961, .int p202962, .int p202963, .int p202964, .int p202965, .int p202966, .int p202967]) := (n202992 q202931 (rn_oo he202981 he202985 (by decide))).trans he202981
              have he202996 : F202990 q202892 = .inr (20, [.int p202961, .int p202962, .int p202963, .int p202964, .int p202965, .int p202966, .int p202967]) := (n202992 q202892 (rn_oo he202982 he202985 (by decide))).trans he202982
              have he202997 : F202990 q202359 = .inr (17, [.ref q202930, .ref q202931, .int p202893, .int p202933]) := e202991
              refine G_aload 1 dr_cX13_copy_102 rfl ?_
              refine G_aload_n 2 dr_cX13_copy_104 rfl ?_
              refine Gp_get 3 hm202889 he202993 dr_cX13_copy_105 (gk_X12 D I) (Nat.le_of_ble_eq_true rfl) wr_9_231 rfl ?_
              refine Gp_put 3 hm202928 he202997 dr_cX13_copy_108 (gk_X12 D I) (Nat.le_of_ble_eq_true rfl) wr_9_231 rfl rfl rfl (Nat.le_of_ble_eq_true rfl) (fun F202998 e202999 n203000 => ?_)
              have he203001 : F202998 q202323 = .inr (17, [.ref q202891, .ref q202892, .int p202893, .int p202894]) := (n203000 q202323 (rn_ty ht202864 ht202860 (by decide))).trans he202993
              have he203002 : F202998 q202891 = .inr (4, [.int p202913, .ref q202915, .int p202914]) := (n203000 q202891 (rn_oo he202994 he202997 (by decide))).trans he202994
              have he203003 : F202998 q202931 = .inr (20, [.int p202961, .int p202962, .int p202963, .int p202964, .int p202965, .int p202966, .int p202967]) := (n203000 q202931 (rn_oo he202995 he202997 (by decide))).trans he202995
              have he203004 : F202998 q202892 = .inr (20, [.int p202961, .int p202962, .int p202963, .int p202964, .int p202965, .int p202966, .int p202967]) := (n203000 q202892 (rn_oo he202996 he202997 (by decide))).trans he202996
              have he203005 : F202998 q202359 = .inr (17, [.ref q202930, .ref q202931, .int p202893, .int p202894]) := e202999
              have n203006 : ∀ b, b ≠ q202359 → F202998 b = F202978 b := fun b hb => (n203000 b hb).trans (n202992 b hb)
              have hT203007 : RS D I P202854 F202998 γ el := RS_set hT202987 n203006 ht202860 (by decide) ⟨q202930, q202931, p202893, p202894, he203005, ht202939, ht202934, ht202935, ht202936, ht202937, ht202938, bp202893, bp202894⟩
              have hs203008 := rSk_put hs202988 hT203007 n203006 ht202860 (by decide) (by decide)
              have md203009 : (fI (F202998 q189003) 3).toInt = (fI (F202978 q189003) 3).toInt := by rw [n203006 q189003 (rn_ty ht202877 ht202860 (by decide))]
              have hx203010 : rk_1 γ q202931 (F202998 q202931) := ⟨p202961, p202962, p202963, p202964, p202965, p202966, p202967, he203003, bp202961, bp202962, bp202965, bp202966, bp202967, r202968, r202969, r202970, (Or.inl (r202971.resolve_right (by omega)))⟩
              have hv203011 := St_seal (f := f) hT203007 ht202860 hf202861 he203005 ht202877 hf202878 (by omega) (by omega) (by omega) hx203010
              have hv203011 := And.intro hv203011 (gSea_ph (γ := γ) (el := el) (f := f) (b := q202359) (n := q202931))
              obtain ⟨γ, hg203012⟩ : ∃ z, z = gSea γ q202359 q202931 := ⟨_, rfl⟩
              rw [← hg203012] at hv203011
              have hk203013 := rSk_of hv203011.1
              have r203014 := hv203011.2.1
              have hT203015 := hk203013.1
              have hs203016 := rSk_tr hs203008 hk203013 (by decide) (by decide) (by decide)
              have ht203017 : rKd γ q189003 9 := rSk_k hk203013 ht202877 (by decide) (by decide)
              have hf203018 : γ 1 q189003 = f := rSk_1 hk203013 ht202877 (by decide) hf202878
              have ht203019 : rKd γ q189004 9 := rSk_kf hk203013 ht202879 (by decide) (by rw [hf202880]; exact hne)
              have hf203020 : γ 1 q189004 = fo := rSk_1 hk203013 ht202879 (by decide) hf202880
              have ht203021 : rKd γ q202323 2 := rSk_kf hk203013 ht202864 (by decide) (by rw [hf202865]; exact hne)
              have hf203022 : γ 1 q202323 = fo := rSk_1 hk203013 ht202864 (by decide) hf202865
              have ht203023 : rKd γ q202891 3 := rSk_kf hk203013 ht202895 (by decide) (by rw [hf202904]; exact hne)
              have hf203024 : γ 1 q202891 = fo := rSk_1 hk203013 ht202895 (by decide) hf202904
              have ht203025 : rKd γ q202930 3 := rSk_k hk203013 ht202934 (by decide) (by decide)
              have hf203026 : γ 1 q202930 = f := rSk_1 hk203013 ht202934 (by decide) hf202940
              have kb203027 : rKb γ el q189003 (g202219.toInt : Int).toNat := rKb_t x202871 hk203013 (by decide) (rSk_s hk203013 ht202877 (by decide)).2.1 (fun _ _ => rfl)
              clear bp202893 bp202894 r202902 r202903 bp202932 bp202933 bp202948 bp202949 bp202952 bp202953 bp202954 bp202950 bp202951 bp202961 bp202962 bp202965 bp202966 bp202967 bp202963 bp202964
              clear r202955 r202956 r202957 r202968 r202969 r202970 r202971
              have r203028 := rSk_g hs203016 hne
              have r203029 : 0 < γ 6 (γ 1 q189004) := by rw [hf203020, r203028.1]; exact x189005
              have r203030 : γ 6 fo = γ0 6 fo := r203028.1
              have r203031 : γ 7 fo = 0 := by rw [r203028.2.1]; exact x189006
              have r203033 := RS_valid hT0 hzq189004 hfo0 x189005
              have r203032 := (rSk_o (i := g202219.toInt.toNat) hT0 hs203016 hzq189004 (by rw [hfo0]; exact hne)).2.2.2 (by omega)
              rw [← x202874] at r203032
              have xs203034 : γ 2 (γ 14 q202323) = γ0 2 (γ0 14 q202323) := by rw [r203032.1]; exact r203032.2.1
              have hB203035 : rBd γ el f B := hv203011.2.2.2 B hB202859
              have hph203036 : rPh γ0 el0 f ≤ rPh γ el f := by rw [r203014]; exact hph202858
              have pk203037 : rPh γ el f ≤ 387 * B + 6000 := rm_pk (rM_ge hT203015 ht203017 hf203018).1 (rM_bd hB203035)
              refine G_widen (cs' := ((rPh γ el f - rPh γ0 el0 f) / 18)) (sl' := (rPh γ el f - rPh γ0 el0 f)) (rm_ec r203014) (rm_es r203014) ?_
              have r203038 := gSea_n hg203012 f
              have kb203039 : rKb γ el q189003 (g202219.toInt + 1 : Int).toNat := rKb_s kb203027 (by omega) (by rw [(rSk_s hk203013 ht202877 (by decide)).2.1, r202863, hg203012]; exact if_pos rfl)
              obtain ⟨z203040, hz203040⟩ : ∃ z : Int32, z = g202219 + Int32.ofInt 1 := ⟨_, rfl⟩
              have ez203040 : z203040.toInt = g202219.toInt + 1 := gI_inc hz203040 (by decide) bg202219' (by decide) (by decide)
              have bz203040 : gB z203040 1 1000000 := ⟨by omega, by omega⟩
              refine G_iinc (L' := [(2, .int z203040), (5, .int g202853), (4, .ref q202359), (3, .ref q202323), (0, .ref q189003), (1, .ref q189004)]) z203040 3 dr_cX13_copy_111 rfl hz203040.symm (Nat.le_of_ble_eq_true rfl) rfl ?_
              refine G_goto 6 dr_cX13_copy_114 (by decide +kernel) ?_
              refine G_lv (L' := [(2, .int z203040), (0, .ref q189003), (1, .ref q189004)]) [0, 4, 5] rfl ?_
              have rs203041 : rsum (fun i => γ0 2 (γ0 14 (el0 (γ0 14 q189004) i))) z203040.toInt.toNat = rsum (fun i => γ0 2 (γ0 14 (el0 (γ0 14 q189004) i))) g202219.toInt.toNat + γ0 2 (γ0 14 (el0 (γ0 14 q189004) g202219.toInt.toNat)) := rsum_1 (by omega) (by omega)
              rw [← x202874] at rs203041
              exact ih6_202233 P202854 F202998 γ el z203040 (gB_w bz203040 (by decide) (by decide)) hT203015 hs203016 hph203036 hB203035 (by omega) (by omega) (by omega) (by omega) (by omega) (by rw [show z203040.toInt.toNat = (g202219.toInt + 1 : Int).toNat by omega]; exact kb203039) (by omega) (by omega) (rm_m1 ez203040 bg202219'.1 x202873 hm6_202233)
            · have r203042 : g202853.toInt < p202914.toInt := gC_nle hc202926
              have bg202853' : gB g202853 0 999999 := ⟨by omega, by omega⟩
              have bp202914' : gB p202914 1 1000000 := ⟨by omega, by omega⟩
              have jl203043 : (g202853.toInt : Int) < γ0 2 (γ0 14 q202323) := by omega
              refine G_aload_n 4 dr_cX13_copy_41 rfl ?_
              have r203044 := (RS_valid hT0 hzq189004 hfo0 x189005).2.2.2.2
              have r203045 : rsum (fun i => γ0 2 (γ0 14 (el0 (γ0 14 q189004) i))) (g202219.toInt + 1).toNat = rsum (fun i => γ0 2 (γ0 14 (el0 (γ0 14 q189004) i))) g202219.toInt.toNat + γ0 2 (γ0 14 (el0 (γ0 14 q189004) g202219.toInt.toNat)) := rsum_1 rfl bg202219'.1
              rw [← x202874] at r203045
              have r203046 : rsum (fun i => γ0 2 (γ0 14 (el0 (γ0 14 q189004) i))) (g202219.toInt + 1).toNat ≤ rsum (fun i => γ0 2 (γ0 14 (el0 (γ0 14 q189004) i))) (γ0 6 fo) := rsum_m _ (rm_tn x202873)
              have r203048 : γ 16 f + 1 ≤ B := by omega
              have rg203049 := rM_ge hT202856 ht202877 hf202878
              have rm203050 := rM_bd hB202859
              have bd203051 := rBd_c hT202856 ht202877 hf202878 hB202859
              have rc203052 := rc_at hT202856 ht202877 hf202878
              obtain ⟨q203059, hl203060⟩ : ∃ z, z = γ 14 q202359 := ⟨_, rfl⟩
              have hl203061 : γ 0 q203059 = 3 ∨ γ 0 q203059 = 103 := by rw [hl203060, ← r202863]; exact (RS_lst hT202856 rc203052.2.1 r202862).1
              refine Gt_row (c := q189003) (f := f) hl0 dr_cX13_copy_42 ⟨wr_10_143, wr_1_15, wr_10_82, by decide, rfl, (Nat.le_of_ble_eq_true rfl), (Nat.le_of_ble_eq_true rfl)⟩ wr_10_80 wr_10_81 hT202856 ht202877 hf202878 (Nat.le_trans bd203051.2.2.1 (Nat.le_trans hBk (by decide))) (rm_cs hph202858 rg203049.2.1 rm203050 (by decide)) (rm_sl hph202858 rg203049.2.1 rm203050 rm_s18) (Nat.le_of_ble_eq_true rfl) (fun P203053 F203054 γ el q203055 dc203056 ds203057 hq203058 => ?_)
              obtain ⟨hk203062, x0203063, x1203064, x22203065, x8203066, h16203067, h18203068, hnu203069, hot203070, h45203071, hf0203072, ⟨hr1203073, hr2203074⟩, hM203075, hBB203076⟩ := hq203058
              have hk203077 := rSk_of hk203062
              have hT203078 := hk203077.1
              have hs203079 := rSk_tr hs202857 hk203077 (by decide) (by decide) (by decide)
              have ht203080 : rKd γ q189003 9 := rSk_k hk203077 ht202877 (by decide) (by decide)
              have hf203081 : γ 1 q189003 = f := rSk_1 hk203077 ht202877 (by decide) hf202878
              have ht203082 : rKd γ q189004 9 := rSk_kf hk203077 ht202879 (by decide) (by rw [hf202880]; exact hne)
              have hf203083 : γ 1 q189004 = fo := rSk_1 hk203077 ht202879 (by decide) hf202880
              have ht203084 : rKd γ q202359 202 := rSk_k hk203077 ht202860 (by decide) (by decide)
              have hf203085 : γ 1 q202359 = f := rSk_1 hk203077 ht202860 (by decide) hf202861
              have ht203086 : rKd γ q202323 2 := rSk_kf hk203077 ht202864 (by decide) (by rw [hf202865]; exact hne)
              have hf203087 : γ 1 q202323 = fo := rSk_1 hk203077 ht202864 (by decide) hf202865
              have ht203088 : rKd γ q202891 3 := rSk_kf hk203077 ht202895 (by decide) (by rw [hf202904]; exact hne)
              have hf203089 : γ 1 q202891 = fo := rSk_1 hk203077 ht202895 (by decide) hf202904
              have r203090 := (rSk_s hk203077 ht202877 (by decide)).2.1
              have r203091 := hot203070 _ (by rw [rc203052.2.1]; decide) (by rw [rc203052.2.1]; decide)
              have r203092 : (g202219.toInt : Int).toNat < γ 2 (γ 14 q189003) := by rw [r203090, r203091.1]; exact r202862
              have r203093 : el (γ 14 q189003) (g202219.toInt : Int).toNat = q202359 := by rw [r203090, r203091.2]; exact r202863
              have kb203094 : rKb γ el q189003 (g202219.toInt : Int).toNat := rKb_t x202871 hk203077 (by decide) r203090 (fun i _ => by rw [r203091.2])
              clear bp202893 bp202894 r202902 r202903 rg203049 rm203050 bd203051 rc203052
              have r203095 := rSk_g hs203079 hne
              have r203096 : 0 < γ 6 (γ 1 q189004) := by rw [hf203083, r203095.1]; exact x189005
              have r203097 : γ 6 fo = γ0 6 fo := r203095.1
              have r203098 : γ 7 fo = 0 := by rw [r203095.2.1]; exact x189006
              have r203100 := RS_valid hT0 hzq189004 hfo0 x189005
              have r203099 := (rSk_o (i := g202219.toInt.toNat) hT0 hs203079 hzq189004 (by rw [hfo0]; exact hne)).2.2.2 (by omega)
              rw [← x202874] at r203099
              have xs203101 : γ 2 (γ 14 q202323) = γ0 2 (γ0 14 q202323) := by rw [r203099.1]; exact r203099.2.1
              have sz203102 := (rSk_s hk203077 ht202860 (by decide)).2.1
              have sz203103 := congrArg (γ 2) sz203102
              have sz203104 := (hot203070 q203059 (by omega) (by omega)).1
              rw [hl203060] at sz203104
              clear hl203061
              have sz203105 := (hot203070 q202891 (rT0 ht202895 (by decide)) (by rw [show _ = 3 from ht202895]; decide)).1
              obtain ⟨nu203106, nu203107, nu203108, nu203109⟩ := hnu203069
              have r203110 := hf0203072.2.2
              have hB203111 : rBd γ el f B := hBB203076 B r203048 hB202859
              have ht203112 : rKd γ q203055 101 := x0203063
              have r203113 : γ 8 q203055 < γ 16 f := rm_x8 x8203066 h16203067 rfl
              have hph203114 : rPh γ0 el0 f ≤ rPh γ el f := rm_ph hph202858 hr2203074
              have pk203115 : rPh γ el f ≤ 387 * B + 6000 := rm_pk (rM_ge hT203078 ht203080 hf203081).1 (rM_bd hB203111)
              have hm203116 : q203055 ∈ P203053 := RS_m hT203078 ht203112 (by decide)
              obtain ⟨p203118, p203119, p203120, p203121, p203122, p203123, p203124, he203117, bp203118, bp203119, bp203122, bp203123, bp203124, r203125, r203126, r203127⟩ := show rkR (F203054 q203055) from RS_o hT203078 ht203112
              have bp203120 := gB_any p203120
              have bp203121 := gB_any p203121
              have r203128 : γ 7 (γ 1 q203055) = γ 7 f := by rw [x1203064]
              have r203129 : p203123.toInt = 0 := by have z := hf0203072.1; rw [he203117] at z; exact z
              have bp203123' : gB p203123 0 0 := ⟨by omega, by omega⟩
              have r203130 : p203124.toInt = 0 := by have z := hf0203072.2.1; rw [he203117] at z; exact z
              have bp203124' : gB p203124 0 0 := ⟨by omega, by omega⟩
              refine G_widen (cs' := ((rPh γ el f - rPh γ0 el0 f) / 18)) (sl' := (rPh γ el f - rPh γ0 el0 f)) (rm_wc hph202858 hr1203073) (rm_ws hph202858 hr2203074) ?_
              refine G_astore (L' := [(6, .ref q203055), (5, .int g202853), (4, .ref q202359), (3, .ref q202323), (2, .int g202219), (0, .ref q189003), (1, .ref q189004)]) dr_cX13_copy_45 (Nat.le_of_ble_eq_true rfl) rfl ?_
              refine G_aload 0 dr_cX13_copy_47 rfl ?_
              refine G_aload_n 3 dr_cX13_copy_49 rfl ?_
              have hm203131 : q202323 ∈ P203053 := RS_m hT203078 ht203086 (by decide)
              obtain ⟨q203133, q203134, p203135, p203136, he203132, ht203143, ht203137, ht203138, ht203139, ht203140, ht203141, bp203135, bp203136, r203142, r203144, r203145⟩ := show rk_2 γ q202323 (F203054 q202323) from RS_o hT203078 ht203086
              have hf203146 : γ 1 q203133 = fo := (show γ 1 q203133 = γ 1 q202323 from ht203138).trans hf203087
              have hf203147 : γ 1 q203134 = fo := (show γ 1 q203134 = γ 1 q202323 from ht203140).trans hf203087
              have r203148 : γ 6 (γ 1 q202323) = γ 6 fo := by rw [hf203087]
              have r203149 : γ 7 (γ 1 q202323) = γ 7 fo := by rw [hf203087]
              have r203150 : γ 19 (γ 1 q202323) = γ 19 fo := by rw [hf203087]
              have r203151 := r203142.resolve_left (by omega)
              clear r203142
              have r203152 : γ 2 (γ 14 q202323) = γ 2 q203133 := by rw [ht203143.1]
              refine Gp_get 0 hm203131 he203132 dr_cX13_copy_50 (gk_X12 D I) (Nat.le_of_ble_eq_true rfl) wr_9_219 rfl ?_
              have jl203153 : g202853.toInt.toNat < γ 2 q203133 := rm_ix bg202853'.1 jl203043 xs203101 (by rw [ht203143.1])
              refine G_iload 1 dr_cX13_copy_53 rfl ?_
              have hm203154 : q203133 ∈ P203053 := RS_m hT203078 ht203137 (by decide)
              obtain ⟨⟨p203156, p203157, q203158, he203155, r203159, r203160, r203161, r203163⟩, r203162⟩ := show rk_3 D I γ el F203054 q203133 from RS_o hT203078 ht203137
              have bp203156 := gB_any p203156
              have bp203157 : gB p203157 0 1000000 := ⟨by omega, by omega⟩
              obtain ⟨r203164, r203165, n203172, f203173, r203166, r203167, r203168, r203169, r203170, r203171⟩ := rLC_n r203161 (by omega)
              have hm203174 : q203158 ∈ P203053 := RS_m hT203078 r203164 (by decide)
              obtain ⟨q203175, hx203176⟩ : ∃ x, x = el q203133 g202853.toInt.toNat := ⟨_, rfl⟩
              have hx203177 : f203173 g202853.toNatClampNeg = some q203175 := (r203170 _ (show g202853.toInt.toNat < γ 2 q203133 by first | assumption | omega)).trans (by rw [hx203176])
              have ht203178 : rKd γ q203175 1 := by rw [hx203176]; exact (r203162 _ (show g202853.toInt.toNat < γ 2 q203133 by first | assumption | omega)).1
              have ht203179 : rFm γ q203175 q203133 := by rw [hx203176]; exact (r203162 _ (show g202853.toInt.toNat < γ 2 q203133 by first | assumption | omega)).2.1
              have hf203180 : γ 1 q203175 = fo := (show γ 1 q203175 = γ 1 q203133 from ht203179).trans hf203146
              refine Gw_callV (As := [.int g202853]) (gV_ok D I) (cp_22_ArrayList_get l hl0 D I P203053 F203054 q203133 q203158 g202853 p203156 p203157 f203173 n203172 q203175 hm203154 hm203174 he203155 r203166 (gB_w bg202853' (by decide) (by decide)) (gB_w bp203157 (by decide) (by decide)) (by omega) (by omega) (by assumption) (by omega)) dr_cX13_copy_55 ⟨wr_10_62, wr_1_18, wr_10_65, by decide, rfl, (Nat.le_of_ble_eq_true rfl), (Nat.le_of_ble_eq_true rfl)⟩ wr_10_63 wr_10_64 hm203154 he203155 rfl (rm_zc pk203115) (rm_zs pk203115) (Nat.le_of_ble_eq_true rfl) (fun r203184 w203185 dc203181 ds203182 hp203183 => ?_) (fun _ _ _ _ _ z => z.elim)
              obtain ⟨rfl, rfl, hdc, hds⟩ := hp203183
              change G _ _ _ _ _ _ _ (.ref q203175 :: _) _ _ _
              refine G_widen (cs' := ((rPh γ el f - rPh γ0 el0 f) / 18)) (sl' := (rPh γ el f - rPh γ0 el0 f)) (rm_d0 hdc) (rm_d0 hds) ?_
              have hm203186 : q203175 ∈ P203053 := RS_m hT203078 ht203178 (by decide)
              obtain ⟨p203188, p203189, p203190, p203191, p203192, p203193, p203194, he203187, bp203188, bp203189, bp203192, bp203193, bp203194, r203195, r203196, r203197, r203198⟩ := show rk_1 γ q203175 (F203054 q203175) from RS_o hT203078 ht203178
              have bp203190 := gB_any p203190
              have bp203191 := gB_any p203191
              have r203199 : γ 7 (γ 1 q203175) = γ 7 fo := by rw [hf203180]
              refine Gp_cast hm203186 he203187 rfl dr_cX13_copy_58 wr_10_83 (gr_cast 1 rfl) ?_
              refine Gw_callV (As := [.ref q203175]) (gV_ok D I) (cp_1722_Row_put l hl0 D I P203053 F203054 q203055 q203175 p203118 p203119 p203120 p203121 p203122 p203123 p203124 p203188 p203189 p203190 p203191 p203192 p203193 p203194 hm203116 hm203186 he203117 he203187 (rn_ty ht203112 ht203178 (by decide)) bp203118 bp203119 bp203122 (gB_w bp203123' (by decide) (by decide)) (gB_w bp203124' (by decide) (by decide)) bp203188 bp203189 bp203192 bp203193 bp203194) dr_cX13_copy_61 ⟨wr_10_144, wr_1_39, wr_10_147, by decide, rfl, (Nat.le_of_ble_eq_true rfl), (Nat.le_of_ble_eq_true rfl)⟩ wr_10_145 wr_10_146 hm203116 he203117 rfl (rm_zc pk203115) (rm_zs pk203115) (Nat.le_of_ble_eq_true rfl) (fun r203203 w203204 dc203200 ds203201 hp203202 => ?_) (fun _ _ _ _ _ z => z.elim)
              obtain ⟨F203205, rfl, rfl, hfr203207, he203208, he203209, hdc, hds⟩ := hp203202
              have he203210 : F203205 q202323 = .inr (17, [.ref q203133, .ref q203134, .int p203135, .int p203136]) := (hfr203207 q202323 hm203131 (nm_c (rn_oo he203132 he203117 (by decide)) nm_n)).trans he203132
              have he203211 : F203205 q203133 = .inr (4, [.int p203156, .ref q203158, .int p203157]) := (hfr203207 q203133 hm203154 (nm_c (rn_oo he203155 he203117 (by decide)) nm_n)).trans he203155
              have he203212 : F203205 q203158 = .inl (I (.object "java/lang/Object"), n203172, .inr (.inr (.inr (.inr f203173)))) := (hfr203207 q203158 hm203174 (nm_c (rn_ao r203166 he203117) nm_n)).trans r203166
              have hfr203213 : rFr [q203055] P203053 F203054 F203205 := rFr_call (rSub_rf (P := P203053)) (rFr_rf (W := []) (P := P203053) (F := F203054)) hfr203207 (fun b hb hn => ⟨nm_n, (nm_c (fun e => hn (e ▸ List.mem_cons_self)) nm_n)⟩)
              change G _ _ _ _ _ _ _ _ _ _ _
              refine G_widen (cs' := ((rPh γ el f - rPh γ0 el0 f) / 18)) (sl' := (rPh γ el f - rPh γ0 el0 f)) (rm_d0 hdc) (rm_d0 hds) ?_
              have hT203214 : RS D I P203053 F203205 γ el := RS_fr hT203078 hfr203213 ht203112 (by decide) ⟨p203188, p203189, p203190, p203191, p203192, p203193, p203194, he203208, bp203188, bp203189, bp203192, bp203193, bp203194, r203195, r203196, r203197⟩
              have hs203215 := rSk_fr hs203079 hT203214 hfr203213 ht203112 (by decide) (by decide)
              have md203216 : (fI (F203205 q189003) 3).toInt = (fI (F203054 q189003) 3).toInt := by rw [hfr203213 q189003 (RS_m hT203078 ht203080 (by decide)) (nm_c (rn_ty ht203080 ht203112 (by decide)) nm_n)]
              refine G_aload 2 dr_cX13_copy_64 rfl ?_
              have hm203217 : q202359 ∈ P203053 := RS_m hT203214 ht203084 (by decide)
              obtain ⟨q203219, q203220, p203221, p203222, he203218, ht203228, ht203223, ht203224, ht203225, ht203226, ht203227, bp203221, bp203222⟩ := show rk_202 γ q202359 (F203205 q202359) from RS_o hT203214 ht203084
              have hf203229 : γ 1 q203219 = f := (show γ 1 q203219 = γ 1 q202359 from ht203224).trans hf203085
              have hf203230 : γ 1 q203220 = f := (show γ 1 q203220 = γ 1 q202359 from ht203226).trans hf203085
              have r203231 : γ 6 (γ 1 q202359) = γ 6 f := by rw [hf203085]
              have r203232 : γ 7 (γ 1 q202359) = γ 7 f := by rw [hf203085]
              have r203233 : γ 19 (γ 1 q202359) = γ 19 f := by rw [hf203085]
              have r203234 : γ 2 (γ 14 q202359) = γ 2 q203219 := by rw [ht203228.1]
              refine Gp_get 0 hm203217 he203218 dr_cX13_copy_66 (gk_X12 D I) (Nat.le_of_ble_eq_true rfl) wr_9_219 rfl ?_
              refine G_aload 0 dr_cX13_copy_69 rfl ?_
              have rg203235 := rM_ge hT203214 ht203080 hf203081
              have rm203236 := rM_bd hB203111
              have bd203237 := rBd_c hT203214 ht203080 hf203081 hB203111
              have rc203238 := rc_at hT203214 ht203080 hf203081
              have r203240 : γ 14 (el (γ 14 q189003) (g202219.toInt : Int).toNat) = q203219 := by rw [r203093]; exact ht203228.1
              have r203241 := rg203235.2.2 _ r203092
              rw [r203240] at r203241
              have r203242 := bd203237.2.2.2 _ r203092
              rw [r203240] at r203242
              have r203243 : γ 7 (γ 1 q203055) = γ 7 f := by rw [x1203064]
              have hx203244 : rk_1 γ q203055 (F203205 q203055) := ⟨p203188, p203189, p203190, p203191, p203192, p203193, p203194, he203208, bp203188, bp203189, bp203192, bp203193, bp203194, r203195, r203196, r203197, (Or.inl (r203198.resolve_right (by omega)))⟩
              refine Gt_add (c := q189003) (f := f) hl0 dr_cX13_copy_71 ⟨wr_10_3, wr_1_18, wr_10_6, by decide, rfl, (Nat.le_of_ble_eq_true rfl), (Nat.le_of_ble_eq_true rfl)⟩ wr_10_4 wr_10_5 hT203214 ht203223 hf203229 ht203112 x1203064 x22203065 r203113 (by omega) ht203080 hf203081 r203092 r203240 hx203244 (Nat.le_trans r203242 (Nat.le_trans hBk (by decide))) (rm_cs hph203114 r203241 rm203236 (by decide)) (rm_sl hph203114 r203241 rm203236 rm_s11) (Nat.le_of_ble_eq_true rfl) (fun P203245 F203239 γ el dc203246 ds203247 hq203248 => ?_)
              obtain ⟨hk203249, x0203250, h2203251, hel203252, hot203253, h16203254, h18203255, hnu203256, hFx203257, hr203258, hM203259, hBB203260⟩ := hq203248
              have hk203261 := rSk_of hk203249
              have r203262 : (fI (F203239 q189003) 3).toInt = (fI (F203205 q189003) 3).toInt := by rw [rSk_F hk203261 ht203080 (by decide) (by decide)]
              have hT203263 := hk203261.1
              have hs203264 := rSk_tr hs203215 hk203261 (by decide) (by decide) (by decide)
              have ht203265 : rKd γ q189003 9 := rSk_k hk203261 ht203080 (by decide) (by decide)
              have hf203266 : γ 1 q189003 = f := rSk_1 hk203261 ht203080 (by decide) hf203081
              have ht203267 : rKd γ q189004 9 := rSk_kf hk203261 ht203082 (by decide) (by rw [hf203083]; exact hne)
              have hf203268 : γ 1 q189004 = fo := rSk_1 hk203261 ht203082 (by decide) hf203083
              have ht203269 : rKd γ q202359 202 := rSk_k hk203261 ht203084 (by decide) (by decide)
              have hf203270 : γ 1 q202359 = f := rSk_1 hk203261 ht203084 (by decide) hf203085
              have ht203271 : rKd γ q202323 2 := rSk_kf hk203261 ht203086 (by decide) (by rw [hf203087]; exact hne)
              have hf203272 : γ 1 q202323 = fo := rSk_1 hk203261 ht203086 (by decide) hf203087
              have ht203273 : rKd γ q202891 3 := rSk_kf hk203261 ht203088 (by decide) (by rw [hf203089]; exact hne)
              have hf203274 : γ 1 q202891 = fo := rSk_1 hk203261 ht203088 (by decide) hf203089
              have ht203275 : rKd γ q203133 3 := rSk_kf hk203261 ht203137 (by decide) (by rw [hf203146]; exact hne)
              have hf203276 : γ 1 q203133 = fo := rSk_1 hk203261 ht203137 (by decide) hf203146
              have ht203277 : rKd γ q203219 3 := rSk_k hk203261 ht203223 (by decide) (by decide)
              have hf203278 : γ 1 q203219 = f := rSk_1 hk203261 ht203223 (by decide) hf203229
              have r203279 := (rSk_s hk203261 ht203080 (by decide)).2.1
              have r203280 := hot203253 _ (by rw [rc203238.2.1]; decide) (fun q => by rw [q, show _ = 3 from ht203223] at rc203238; exact absurd rc203238.2.1 (by decide))
              have r203281 : (g202219.toInt : Int).toNat < γ 2 (γ 14 q189003) := by rw [r203279, r203280.1]; exact r203092
              have r203282 : el (γ 14 q189003) (g202219.toInt : Int).toNat = q202359 := by rw [r203279, r203280.2]; exact r203093
              have kb203283 : rKb γ el q189003 (g202219.toInt : Int).toNat := rKb_t kb203094 hk203261 (by decide) r203279 (fun i _ => by rw [r203280.2])
              clear bp203118 bp203119 bp203122 bp203123 bp203124 bp203120 bp203121 bp203135 bp203136 r203144 r203145 bp203188 bp203189 bp203192 bp203193 bp203194 bp203190 bp203191 bp203221 bp203222 rg203235 rm203236 bd203237 rc203238 r203241 r203242
              clear r203125 r203126 r203127 r203195 r203196 r203197 r203198
              have r203284 := rSk_g hs203264 hne
              have r203285 : 0 < γ 6 (γ 1 q189004) := by rw [hf203268, r203284.1]; exact x189005
              have r203286 : γ 6 fo = γ0 6 fo := r203284.1
              have r203287 : γ 7 fo = 0 := by rw [r203284.2.1]; exact x189006
              have r203289 := RS_valid hT0 hzq189004 hfo0 x189005
              have r203288 := (rSk_o (i := g202219.toInt.toNat) hT0 hs203264 hzq189004 (by rw [hfo0]; exact hne)).2.2.2 (by omega)
              rw [← x202874] at r203288
              have xs203290 : γ 2 (γ 14 q202323) = γ0 2 (γ0 14 q202323) := by rw [r203288.1]; exact r203288.2.1
              first | have sz203291 := (hot203253 q202891 (rT0 ht203088 (by decide)) (by assumption)).1 | skip
              first | have sz203292 := (hot203253 q203133 (rT0 ht203137 (by decide)) (by assumption)).1 | skip
              obtain ⟨nu203293, nu203294, nu203295, nu203296⟩ := hnu203256
              have ht203297 : rKd γ q203055 1 := x0203250
              have hB203298 : rBd γ el f B := hBB203260 B hB203111
              have hph203299 : rPh γ0 el0 f ≤ rPh γ el f := rm_ph hph203114 hr203258.2
              have pk203300 : rPh γ el f ≤ 387 * B + 6000 := rm_pk (rM_ge hT203263 ht203265 hf203266).1 (rM_bd hB203298)
              refine G_widen (cs' := ((rPh γ el f - rPh γ0 el0 f) / 18)) (sl' := (rPh γ el f - rPh γ0 el0 f)) (rm_wc hph203114 hr203258.1) (rm_ws hph203114 hr203258.2) ?_
              refine G_pop dr_cX13_copy_74 rfl ?_
              obtain ⟨z203301, hz203301⟩ : ∃ z : Int32, z = g202853 + Int32.ofInt 1 := ⟨_, rfl⟩
              have ez203301 : z203301.toInt = g202853.toInt + 1 := gI_inc hz203301 (by decide) bg202853' (by decide) (by decide)
              have bz203301 : gB z203301 1 1000000 := ⟨by omega, by omega⟩
              refine G_iinc (L' := [(5, .int z203301), (6, .ref q203055), (4, .ref q202359), (3, .ref q202323), (2, .int g202219), (0, .ref q189003), (1, .ref q189004)]) z203301 1 dr_cX13_copy_75 rfl hz203301.symm (Nat.le_of_ble_eq_true rfl) rfl ?_
              refine G_goto 29 dr_cX13_copy_78 (by decide +kernel) ?_
              refine G_lv (L' := [(5, .int z203301), (4, .ref q202359), (3, .ref q202323), (2, .int g202219), (0, .ref q189003), (1, .ref q189004)]) [0, 2, 3, 4, 5, 6] rfl ?_
              exact ih29_202875 P203245 F203239 γ el z203301 (gB_w bz203301 (by decide) (by decide)) hT203263 hs203264 hph203299 hB203298 ht203269 hf203270 r203281 r203282 ht203271 hf203272 (by omega) (by omega) (by omega) (by omega) (by omega) kb203283 (by omega) (by omega) x202874 (by omega) (rm_m1 ez203301 bg202853'.1 jl203043 hm29_202875)
        exact hlp29_202875 ((γ0 2 (γ0 14 q202323) - (0 : Int).toNat) + 1) P202357 F202358 γ el 0 (gB_w (gBl (show Int32.toInt 0 = 0 by decide)) (by decide) (by decide)) hT202384 hs202385 hph202410 hB202400 ht202406 b1202365 r202408 r202409 ht202390 hf202391 (by have qa0 : Int32.toInt 0 = 0 := (by decide); omega) (by have qa0 : Int32.toInt 0 = 0 := (by decide); omega) (by have qa0 : Int32.toInt 0 = 0 := (by decide); omega) (by have qa0 : Int32.toInt 0 = 0 := (by decide); omega) (by have qa0 : Int32.toInt 0 = 0 := (by decide); omega) kb202392 (by have qa0 : Int32.toInt 0 = 0 := (by decide); omega) (by have qa0 : Int32.toInt 0 = 0 := (by decide); omega) hx0202352 (by have qa0 : Int32.toInt 0 = 0 := (by decide); omega) (Nat.lt_succ_self _)
  exact hlp6_202233 ((γ0 6 fo - (0 : Int).toNat) + 1) P189001 F189017 γ el 0 (gB_w (gBl (show Int32.toInt 0 = 0 by decide)) (by decide) (by decide)) hT189033 hs189034 hph189044 hB189043 (by have qa0 : Int32.toInt 0 = 0 := (by decide); omega) (by have qa0 : Int32.toInt 0 = 0 := (by decide); omega) (by have qa0 : Int32.toInt 0 = 0 := (by decide); omega) (by have qa0 : Int32.toInt 0 = 0 := (by decide); omega) (by have qa0 : Int32.toInt 0 = 0 := (by decide); omega) rKb_0 (by show γ 16 f ≤ 0; omega) (by have qa0 : Int32.toInt 0 = 0 := (by decide); omega) (Nat.lt_succ_self _)
