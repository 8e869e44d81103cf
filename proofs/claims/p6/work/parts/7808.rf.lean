theorem dr_cX17_load_0 : decode cX17_load 0 = .ok (.aload_n 0, 1) := by decide +kernel
theorem dr_cX17_load_1 : decode cX17_load 1 = .ok (.getfield 231, 3) := by decide +kernel
theorem wr_7_88 : (Jvm.Cond.fieldLink "SpillForgeModel" (231 : Nat) "SpillForgeModel" "temporaries" "I") ∈ gw := gw_7 88 rfl rfl
theorem dr_cX17_load_4 : decode cX17_load 4 = .ok (.sipush 2000, 3) := by decide +kernel
theorem dr_cX17_load_7 : decode cX17_load 7 = .ok (.if_icmp .ne 5, 3) := by decide +kernel
theorem dr_cX17_load_12 : decode cX17_load 12 = .ok (.aload_n 1, 1) := by decide +kernel
theorem dr_cX17_load_13 : decode cX17_load 13 = .ok (.invokevirtual 177, 3) := by decide +kernel
theorem wr_10_206 : (Jvm.Cond.methodLink "SpillForgeModel" (177 : Nat) ({ cls := "SpillForgeModel$Code", name := "row", desc := "()LSpillForgeModel$Row;" } : Jvm.MethodName)) ∈ gw := gw_10 206 rfl rfl
theorem wr_10_82 : (Jvm.Cond.code ({ cls := "SpillForgeModel$Code", name := "row", desc := "()LSpillForgeModel$Row;" } : Jvm.MethodName) prog_16_method_4_code (2 : Nat) (Option.some (Jvm.ClassFile.FieldType.object "SpillForgeModel$Row"))) ∈ gw := gw_10 82 rfl rfl
theorem wr_10_80 : (Jvm.Cond.instanceMethod ({ cls := "SpillForgeModel$Code", name := "row", desc := "()LSpillForgeModel$Row;" } : Jvm.MethodName)) ∈ gw := gw_10 80 rfl rfl
theorem wr_10_81 : (Jvm.Cond.selects "SpillForgeModel$Code" ({ cls := "SpillForgeModel$Code", name := "row", desc := "()LSpillForgeModel$Row;" } : Jvm.MethodName) ({ cls := "SpillForgeModel$Code", name := "row", desc := "()LSpillForgeModel$Row;" } : Jvm.MethodName)) ∈ gw := gw_10 81 rfl rfl
theorem dr_cX17_load_16 : decode cX17_load 16 = .ok (.astore 5, 2) := by decide +kernel
theorem dr_cX17_load_18 : decode cX17_load 18 = .ok (.aload 5, 2) := by decide +kernel
theorem dr_cX17_load_20 : decode cX17_load 20 = .ok (.bipush 21, 2) := by decide +kernel
theorem dr_cX17_load_22 : decode cX17_load 22 = .ok (.putfield 39, 3) := by decide +kernel
theorem dr_cX17_load_25 : decode cX17_load 25 = .ok (.aload 5, 2) := by decide +kernel
theorem dr_cX17_load_27 : decode cX17_load 27 = .ok (.aload_n 0, 1) := by decide +kernel
theorem dr_cX17_load_28 : decode cX17_load 28 = .ok (.getfield 231, 3) := by decide +kernel
theorem dr_cX17_load_31 : decode cX17_load 31 = .ok (.putfield 52, 3) := by decide +kernel
theorem dr_cX17_load_34 : decode cX17_load 34 = .ok (.aload 5, 2) := by decide +kernel
theorem dr_cX17_load_36 : decode cX17_load 36 = .ok (.iload 4, 2) := by decide +kernel
theorem dr_cX17_load_38 : decode cX17_load 38 = .ok (.putfield 45, 3) := by decide +kernel
theorem dr_cX17_load_41 : decode cX17_load 41 = .ok (.aload_n 2, 1) := by decide +kernel
theorem dr_cX17_load_42 : decode cX17_load 42 = .ok (.getfield 117, 3) := by decide +kernel
theorem dr_cX17_load_45 : decode cX17_load 45 = .ok (.iload_n 3, 1) := by decide +kernel
theorem dr_cX17_load_46 : decode cX17_load 46 = .ok (.aload 5, 2) := by decide +kernel
theorem dr_cX17_load_48 : decode cX17_load 48 = .ok (.invokevirtual 181, 3) := by decide +kernel
theorem wr_10_207 : (Jvm.Cond.methodLink "SpillForgeModel" (181 : Nat) ({ cls := "java/util/ArrayList", name := "add", desc := "(ILjava/lang/Object;)V" } : Jvm.MethodName)) ∈ gw := gw_10 207 rfl rfl
theorem wr_10_210 : (Jvm.Cond.code ({ cls := "java/util/ArrayList", name := "add", desc := "(ILjava/lang/Object;)V" } : Jvm.MethodName) prog_43_method_26_code (5 : Nat) (Option.none : Option Jvm.ClassFile.FieldType)) ∈ gw := gw_10 210 rfl rfl
theorem wr_10_208 : (Jvm.Cond.instanceMethod ({ cls := "java/util/ArrayList", name := "add", desc := "(ILjava/lang/Object;)V" } : Jvm.MethodName)) ∈ gw := gw_10 208 rfl rfl
theorem wr_10_209 : (Jvm.Cond.selects "java/util/ArrayList" ({ cls := "java/util/ArrayList", name := "add", desc := "(ILjava/lang/Object;)V" } : Jvm.MethodName) ({ cls := "java/util/ArrayList", name := "add", desc := "(ILjava/lang/Object;)V" } : Jvm.MethodName)) ∈ gw := gw_10 209 rfl rfl
theorem dr_cX17_load_51 : decode cX17_load 51 = .ok (.aload_n 0, 1) := by decide +kernel
theorem dr_cX17_load_52 : decode cX17_load 52 = .ok (.dup, 1) := by decide +kernel
theorem dr_cX17_load_53 : decode cX17_load 53 = .ok (.getfield 231, 3) := by decide +kernel
theorem dr_cX17_load_56 : decode cX17_load 56 = .ok (.iconst 1, 1) := by decide +kernel
theorem dr_cX17_load_57 : decode cX17_load 57 = .ok (.iadd, 1) := by decide +kernel
theorem dr_cX17_load_58 : decode cX17_load 58 = .ok (.putfield 231, 3) := by decide +kernel
theorem dr_cX17_load_61 : decode cX17_load 61 = .ok (.aload 5, 2) := by decide +kernel
theorem dr_cX17_load_63 : decode cX17_load 63 = .ok (.getfield 52, 3) := by decide +kernel
theorem dr_cX17_load_66 : decode cX17_load 66 = .ok (.ireturn, 1) := by decide +kernel
theorem dr_cX17_load_10 : decode cX17_load 10 = .ok (.iconst (-1), 1) := by decide +kernel
theorem dr_cX17_load_11 : decode cX17_load 11 = .ok (.ireturn, 1) := by decide +kernel
theorem dr_cX13_copy_0 : decode cX13_copy 0 = .ok (.aload_n 0, 1) := by decide +kernel
theorem dr_cX13_copy_1 : decode cX13_copy 1 = .ok (.invokevirtual 73, 3) := by decide +kernel
theorem wr_10_136 : (Jvm.Cond.methodLink "SpillForgeModel$Code" (73 : Nat) ({ cls := "SpillForgeModel$Code", name := "begin", desc := "()V" } : Jvm.MethodName)) ∈ gw := gw_10 136 rfl rfl
theorem wr_9_88 : (Jvm.Cond.code ({ cls := "SpillForgeModel$Code", name := "begin", desc := "()V" } : Jvm.MethodName) prog_16_method_2_code (1 : Nat) (Option.none : Option Jvm.ClassFile.FieldType)) ∈ gw := gw_9 88 rfl rfl
theorem wr_9_86 : (Jvm.Cond.instanceMethod ({ cls := "SpillForgeModel$Code", name := "begin", desc := "()V" } : Jvm.MethodName)) ∈ gw := gw_9 86 rfl rfl
theorem wr_9_87 : (Jvm.Cond.selects "SpillForgeModel$Code" ({ cls := "SpillForgeModel$Code", name := "begin", desc := "()V" } : Jvm.MethodName) ({ cls := "SpillForgeModel$Code", name := "begin", desc := "()V" } : Jvm.MethodName)) ∈ gw := gw_9 87 rfl rfl
theorem dr_cX13_copy_4 : decode cX13_copy 4 = .ok (.iconst 0, 1) := by decide +kernel
theorem dr_cX13_copy_5 : decode cX13_copy 5 = .ok (.istore_n 2, 1) := by decide +kernel
theorem dr_cX13_copy_6 : decode cX13_copy 6 = .ok (.iload_n 2, 1) := by decide +kernel
theorem dr_cX13_copy_7 : decode cX13_copy 7 = .ok (.aload_n 1, 1) := by decide +kernel
theorem dr_cX13_copy_8 : decode cX13_copy 8 = .ok (.invokevirtual 76, 3) := by decide +kernel
theorem wr_10_137 : (Jvm.Cond.methodLink "SpillForgeModel$Code" (76 : Nat) ({ cls := "SpillForgeModel$Code", name := "size", desc := "()I" } : Jvm.MethodName)) ∈ gw := gw_10 137 rfl rfl
theorem dr_cX13_copy_11 : decode cX13_copy 11 = .ok (.if_icmp .ge 106, 3) := by decide +kernel
theorem dr_cX13_copy_117 : decode cX13_copy 117 = .ok (.return_, 1) := by decide +kernel
theorem dr_cX13_copy_14 : decode cX13_copy 14 = .ok (.aload_n 1, 1) := by decide +kernel
theorem dr_cX13_copy_15 : decode cX13_copy 15 = .ok (.iload_n 2, 1) := by decide +kernel
theorem dr_cX13_copy_16 : decode cX13_copy 16 = .ok (.invokevirtual 67, 3) := by decide +kernel
theorem dr_cX13_copy_19 : decode cX13_copy 19 = .ok (.astore_n 3, 1) := by decide +kernel
theorem dr_cX13_copy_20 : decode cX13_copy 20 = .ok (.aload_n 0, 1) := by decide +kernel
theorem dr_cX13_copy_21 : decode cX13_copy 21 = .ok (.invokevirtual 77, 3) := by decide +kernel
theorem wr_10_142 : (Jvm.Cond.methodLink "SpillForgeModel$Code" (77 : Nat) ({ cls := "SpillForgeModel$Code", name := "block", desc := "()LSpillForgeModel$Block;" } : Jvm.MethodName)) ∈ gw := gw_10 142 rfl rfl
theorem wr_9_156 : (Jvm.Cond.code ({ cls := "SpillForgeModel$Code", name := "block", desc := "()LSpillForgeModel$Block;" } : Jvm.MethodName) prog_16_method_3_code (2 : Nat) (Option.some (Jvm.ClassFile.FieldType.object "SpillForgeModel$Block"))) ∈ gw := gw_9 156 rfl rfl
theorem wr_9_154 : (Jvm.Cond.instanceMethod ({ cls := "SpillForgeModel$Code", name := "block", desc := "()LSpillForgeModel$Block;" } : Jvm.MethodName)) ∈ gw := gw_9 154 rfl rfl
theorem wr_9_155 : (Jvm.Cond.selects "SpillForgeModel$Code" ({ cls := "SpillForgeModel$Code", name := "block", desc := "()LSpillForgeModel$Block;" } : Jvm.MethodName) ({ cls := "SpillForgeModel$Code", name := "block", desc := "()LSpillForgeModel$Block;" } : Jvm.MethodName)) ∈ gw := gw_9 155 rfl rfl
theorem dr_cX13_copy_24 : decode cX13_copy 24 = .ok (.astore 4, 2) := by decide +kernel
theorem dr_cX13_copy_26 : decode cX13_copy 26 = .ok (.iconst 0, 1) := by decide +kernel
theorem dr_cX13_copy_27 : decode cX13_copy 27 = .ok (.istore 5, 2) := by decide +kernel
theorem dr_cX13_copy_29 : decode cX13_copy 29 = .ok (.iload 5, 2) := by decide +kernel
theorem dr_cX13_copy_31 : decode cX13_copy 31 = .ok (.aload_n 3, 1) := by decide +kernel
theorem dr_cX13_copy_32 : decode cX13_copy 32 = .ok (.getfield 41, 3) := by decide +kernel
theorem dr_cX13_copy_35 : decode cX13_copy 35 = .ok (.invokevirtual 26, 3) := by decide +kernel
theorem dr_cX13_copy_38 : decode cX13_copy 38 = .ok (.if_icmp .ge 43, 3) := by decide +kernel
theorem dr_cX13_copy_81 : decode cX13_copy 81 = .ok (.aload 4, 2) := by decide +kernel
theorem dr_cX13_copy_83 : decode cX13_copy 83 = .ok (.getfield 89, 3) := by decide +kernel
theorem wr_9_224 : (Jvm.Cond.fieldLink "SpillForgeModel$Code" (89 : Nat) "SpillForgeModel$Block" "end" "LSpillForgeModel$Row;") ∈ gw := gw_9 224 rfl rfl
theorem dr_cX13_copy_86 : decode cX13_copy 86 = .ok (.aload_n 3, 1) := by decide +kernel
theorem dr_cX13_copy_87 : decode cX13_copy 87 = .ok (.getfield 89, 3) := by decide +kernel
theorem dr_cX13_copy_90 : decode cX13_copy 90 = .ok (.invokevirtual 85, 3) := by decide +kernel
theorem wr_10_144 : (Jvm.Cond.methodLink "SpillForgeModel$Code" (85 : Nat) ({ cls := "SpillForgeModel$Row", name := "put", desc := "(LSpillForgeModel$Row;)V" } : Jvm.MethodName)) ∈ gw := gw_10 144 rfl rfl
theorem wr_10_147 : (Jvm.Cond.code ({ cls := "SpillForgeModel$Row", name := "put", desc := "(LSpillForgeModel$Row;)V" } : Jvm.MethodName) prog_18_method_6_code (2 : Nat) (Option.none : Option Jvm.ClassFile.FieldType)) ∈ gw := gw_10 147 rfl rfl
theorem wr_10_145 : (Jvm.Cond.instanceMethod ({ cls := "SpillForgeModel$Row", name := "put", desc := "(LSpillForgeModel$Row;)V" } : Jvm.MethodName)) ∈ gw := gw_10 145 rfl rfl
theorem wr_10_146 : (Jvm.Cond.selects "SpillForgeModel$Row" ({ cls := "SpillForgeModel$Row", name := "put", desc := "(LSpillForgeModel$Row;)V" } : Jvm.MethodName) ({ cls := "SpillForgeModel$Row", name := "put", desc := "(LSpillForgeModel$Row;)V" } : Jvm.MethodName)) ∈ gw := gw_10 146 rfl rfl
theorem dr_cX13_copy_93 : decode cX13_copy 93 = .ok (.aload 4, 2) := by decide +kernel
theorem dr_cX13_copy_95 : decode cX13_copy 95 = .ok (.aload_n 3, 1) := by decide +kernel
theorem dr_cX13_copy_96 : decode cX13_copy 96 = .ok (.getfield 93, 3) := by decide +kernel
theorem wr_9_227 : (Jvm.Cond.fieldLink "SpillForgeModel$Code" (93 : Nat) "SpillForgeModel$Block" "first" "I") ∈ gw := gw_9 227 rfl rfl
theorem dr_cX13_copy_99 : decode cX13_copy 99 = .ok (.putfield 93, 3) := by decide +kernel
theorem dr_cX13_copy_102 : decode cX13_copy 102 = .ok (.aload 4, 2) := by decide +kernel
theorem dr_cX13_copy_104 : decode cX13_copy 104 = .ok (.aload_n 3, 1) := by decide +kernel
theorem dr_cX13_copy_105 : decode cX13_copy 105 = .ok (.getfield 96, 3) := by decide +kernel
theorem wr_9_231 : (Jvm.Cond.fieldLink "SpillForgeModel$Code" (96 : Nat) "SpillForgeModel$Block" "second" "I") ∈ gw := gw_9 231 rfl rfl
theorem dr_cX13_copy_108 : decode cX13_copy 108 = .ok (.putfield 96, 3) := by decide +kernel
theorem dr_cX13_copy_111 : decode cX13_copy 111 = .ok (.iinc 2 1, 3) := by decide +kernel
theorem dr_cX13_copy_114 : decode cX13_copy 114 = .ok (.goto (-108), 3) := by decide +kernel
theorem dr_cX13_copy_41 : decode cX13_copy 41 = .ok (.aload_n 0, 1) := by decide +kernel
theorem dr_cX13_copy_42 : decode cX13_copy 42 = .ok (.invokevirtual 81, 3) := by decide +kernel
theorem wr_10_143 : (Jvm.Cond.methodLink "SpillForgeModel$Code" (81 : Nat) ({ cls := "SpillForgeModel$Code", name := "row", desc := "()LSpillForgeModel$Row;" } : Jvm.MethodName)) ∈ gw := gw_10 143 rfl rfl
theorem dr_cX13_copy_45 : decode cX13_copy 45 = .ok (.astore 6, 2) := by decide +kernel
theorem dr_cX13_copy_47 : decode cX13_copy 47 = .ok (.aload 6, 2) := by decide +kernel
theorem dr_cX13_copy_49 : decode cX13_copy 49 = .ok (.aload_n 3, 1) := by decide +kernel
theorem dr_cX13_copy_50 : decode cX13_copy 50 = .ok (.getfield 41, 3) := by decide +kernel
theorem dr_cX13_copy_53 : decode cX13_copy 53 = .ok (.iload 5, 2) := by decide +kernel
theorem dr_cX13_copy_55 : decode cX13_copy 55 = .ok (.invokevirtual 37, 3) := by decide +kernel
theorem dr_cX13_copy_58 : decode cX13_copy 58 = .ok (.checkcast 45, 3) := by decide +kernel
theorem dr_cX13_copy_61 : decode cX13_copy 61 = .ok (.invokevirtual 85, 3) := by decide +kernel
theorem dr_cX13_copy_64 : decode cX13_copy 64 = .ok (.aload 4, 2) := by decide +kernel
theorem dr_cX13_copy_66 : decode cX13_copy 66 = .ok (.getfield 41, 3) := by decide +kernel
theorem dr_cX13_copy_69 : decode cX13_copy 69 = .ok (.aload 6, 2) := by decide +kernel
theorem dr_cX13_copy_71 : decode cX13_copy 71 = .ok (.invokevirtual 33, 3) := by decide +kernel
theorem dr_cX13_copy_74 : decode cX13_copy 74 = .ok (.pop, 1) := by decide +kernel
theorem dr_cX13_copy_75 : decode cX13_copy 75 = .ok (.iinc 5 1, 3) := by decide +kernel
theorem dr_cX13_copy_78 : decode cX13_copy 78 = .ok (.goto (-49), 3) := by decide +kernel
/- tl_RCode_copy_29: P, F, gm, el, l5; out: F, P, gm, el -/
def tl_RCode_copy_29 (D : va_G) (I : FieldType → ClassId) (γ0 el0 : Nat → Nat → Nat) (f : Nat) (fo : Nat) (P : List Nat) (F : Nat → va_E) (q0 : Nat) (l2_1 : Int32) (q1 : Nat) (c1 : Nat) (c2 : Nat) (s1 : List Nat) (s2 : Nat → va_E) (s3 : Nat → Nat → Nat) (s4 : Nat → Nat → Nat) (s5 : Int32) (k : Nat) (e1 : Nat → va_E) (e2 : List Nat) (e3 : Nat → Nat → Nat) (e4 : Nat → Nat → Nat) : Prop := ∀ R : (List Nat) → (Nat → va_E) → (Nat → Nat → Nat) → (Nat → Nat → Nat) → (Int32) → Nat → (Nat → va_E) → (List Nat) → (Nat → Nat → Nat) → (Nat → Nat → Nat) → Prop,
  (∀ (P_2 : List Nat) (F_2 : Nat → va_E) (gm_2 : Nat → Nat → Nat) (el_2 : Nat → Nat → Nat) (l5_2 : Int32) (x1 : Nat) (x2 : Int32), gB l5_2 0 1000000 → RS D I P_2 F_2 gm_2 el_2 → rSk f [1, 2, 3, 101, 102, 103, 202] ([1, 2, 3, 4, 5, 6, 7, 8, 9, 101, 102, 103, 202]) D I P F γ0 el0 P_2 F_2 gm_2 el_2 → gm_2 6 f = 0 → gm_2 19 f = γ0 6 fo → gm_2 18 f = 0 → gm_2 7 f = 0 → (fI (F_2 q0) 3).toInt = l2_1.toInt + 1 → rKb gm_2 el_2 q0 (l2_1.toInt : Int).toNat → (gm_2 16 f ≤ rsum (fun i => γ0 2 (γ0 14 (el0 (γ0 14 q1) i))) (l2_1.toInt : Int).toNat + (l5_2.toInt : Int).toNat) → (l2_1.toInt : Int) < γ0 6 fo → c1 = el0 (γ0 14 q1) (l2_1.toInt : Int).toNat → (l5_2.toInt : Int) ≤ γ0 2 (γ0 14 c1) → fR (F_2 c1) 0 = x1 → x2.toInt = (gm_2 2 x1 : Int) → fI (F_2 x1) 2 = x2 → x2.toInt ≤ l5_2.toInt → R P_2 F_2 gm_2 el_2 l5_2 81 F_2 P_2 gm_2 el_2) →
  (∀ (P_2 : List Nat) (F_2 : Nat → va_E) (gm_2 : Nat → Nat → Nat) (el_2 : Nat → Nat → Nat) (l5_2 : Int32) (x1 : Nat) (x2 : Int32) (x3 : List Nat) (x4 : Nat → va_E) (x5 : Nat → Nat → Nat) (x6 : Nat → Nat → Nat) (x7 : Nat) (x8 : Nat) (x9 : Nat) (x10 : Nat) (x11 : Nat) (x12 : Int32) (x13 : Int32) (x14 : Int32) (x15 : Int32) (x16 : Int32) (x17 : Int32) (x18 : Int32) (x19 : Int32) (x20 : Nat → va_E) (x21 : Nat) (x22 : List Nat) (x23 : Nat → va_E) (x24 : Nat → Nat → Nat) (x25 : Nat → Nat → Nat) (x26 : Nat) (x27 : Nat) (x28 : Int32) (k : Nat) (e1 : Nat → va_E) (e2 : List Nat) (e3 : Nat → Nat → Nat) (e4 : Nat → Nat → Nat), gB l5_2 0 1000000 → RS D I P_2 F_2 gm_2 el_2 → rSk f [1, 2, 3, 101, 102, 103, 202] ([1, 2, 3, 4, 5, 6, 7, 8, 9, 101, 102, 103, 202]) D I P F γ0 el0 P_2 F_2 gm_2 el_2 → gm_2 6 f = 0 → gm_2 19 f = γ0 6 fo → gm_2 18 f = 0 → gm_2 7 f = 0 → (fI (F_2 q0) 3).toInt = l2_1.toInt + 1 → rKb gm_2 el_2 q0 (l2_1.toInt : Int).toNat → (gm_2 16 f ≤ rsum (fun i => γ0 2 (γ0 14 (el0 (γ0 14 q1) i))) (l2_1.toInt : Int).toNat + (l5_2.toInt : Int).toNat) → (l2_1.toInt : Int) < γ0 6 fo → c1 = el0 (γ0 14 q1) (l2_1.toInt : Int).toNat → (l5_2.toInt : Int) ≤ γ0 2 (γ0 14 c1) → fR (F_2 c1) 0 = x1 → x2.toInt = (gm_2 2 x1 : Int) → fI (F_2 x1) 2 = x2 → l5_2.toInt < x2.toInt → rRq D I P_2 F_2 gm_2 el_2 f q0 x3 x4 x5 x6 x7 x8 x9 → fR (x4 c1) 0 = x10 → x11 = x6 x10 l5_2.toInt.toNat → fI (x4 x10) 2 = x12 → tr_RArrayList_get l5_2 x12 → fI (x4 x11) 0 = x13 → fI (x4 x11) 1 = x14 → fI (x4 x11) 2 = x15 → fI (x4 x11) 3 = x16 → fI (x4 x11) 4 = x17 → fI (x4 x11) 5 = x18 → fI (x4 x11) 6 = x19 → rFr [x7] x3 x4 x20 → x20 x7 = .inr (20, [.int x13, .int x14, .int x15, .int x16, .int x17, .int x18, .int x19]) → fR (x20 c2) 0 = x21 → rIq D I x3 x20 x5 x6 f x21 (x5 2 x21) x7 x22 x23 x24 x25 x26 x27 → x28.toInt = l5_2.toInt + 1 → R x22 x23 x24 x25 x28 k e1 e2 e3 e4 → R P_2 F_2 gm_2 el_2 l5_2 k e1 e2 e3 e4) →
  R s1 s2 s3 s4 s5 k e1 e2 e3 e4
/- tl_RCode_copy_6: P, F, gm, el, l2; out: F, P, gm, el -/
def tl_RCode_copy_6 (D : va_G) (I : FieldType → ClassId) (γ0 el0 : Nat → Nat → Nat) (f : Nat) (fo : Nat) (P : List Nat) (F : Nat → va_E) (q0 : Nat) (q1 : Nat) (s1 : List Nat) (s2 : Nat → va_E) (s3 : Nat → Nat → Nat) (s4 : Nat → Nat → Nat) (s5 : Int32) (k : Nat) (e1 : Nat → va_E) (e2 : List Nat) (e3 : Nat → Nat → Nat) (e4 : Nat → Nat → Nat) : Prop := ∀ R : (List Nat) → (Nat → va_E) → (Nat → Nat → Nat) → (Nat → Nat → Nat) → (Int32) → Nat → (Nat → va_E) → (List Nat) → (Nat → Nat → Nat) → (Nat → Nat → Nat) → Prop,
  (∀ (P_1 : List Nat) (F_1 : Nat → va_E) (gm_1 : Nat → Nat → Nat) (el_1 : Nat → Nat → Nat) (l2_1 : Int32) (x1 : Int32), gB l2_1 0 1000000 → RS D I P_1 F_1 gm_1 el_1 → rSk f [1, 2, 3, 101, 102, 103, 202] ([1, 2, 3, 4, 5, 6, 7, 8, 9, 101, 102, 103, 202]) D I P F γ0 el0 P_1 F_1 gm_1 el_1 → gm_1 6 f = 0 → gm_1 19 f = γ0 6 fo → gm_1 18 f = 0 → gm_1 7 f = 0 → (fI (F_1 q0) 3).toInt = l2_1.toInt → rKb gm_1 el_1 q0 (l2_1.toInt : Int).toNat → (gm_1 16 f ≤ rsum (fun i => γ0 2 (γ0 14 (el0 (γ0 14 q1) i))) (l2_1.toInt : Int).toNat) → (l2_1.toInt : Int) ≤ γ0 6 fo → fI (F_1 q1) 3 = x1 → x1.toInt ≤ l2_1.toInt → R P_1 F_1 gm_1 el_1 l2_1 117 F_1 P_1 gm_1 el_1) →
  (∀ (P_1 : List Nat) (F_1 : Nat → va_E) (gm_1 : Nat → Nat → Nat) (el_1 : Nat → Nat → Nat) (l2_1 : Int32) (x1 : Int32) (x2 : Nat) (x3 : Nat) (x4 : Int32) (x5 : List Nat) (x6 : Nat → va_E) (x7 : Nat → Nat → Nat) (x8 : Nat → Nat → Nat) (x9 : Nat) (x10 : Nat) (x11 : Nat) (x12 : Nat → va_E) (x13 : List Nat) (x14 : Nat → Nat → Nat) (x15 : Nat → Nat → Nat) (x16 : Nat) (x17 : Nat) (x18 : Int32) (x19 : Int32) (x20 : Int32) (x21 : Int32) (x22 : Int32) (x23 : Int32) (x24 : Int32) (x25 : Nat → va_E) (x26 : Int32) (x27 : Nat → va_E) (x28 : Int32) (x29 : Nat → va_E) (x30 : Nat → Nat → Nat) (x31 : Int32) (k : Nat) (e1 : Nat → va_E) (e2 : List Nat) (e3 : Nat → Nat → Nat) (e4 : Nat → Nat → Nat), gB l2_1 0 1000000 → RS D I P_1 F_1 gm_1 el_1 → rSk f [1, 2, 3, 101, 102, 103, 202] ([1, 2, 3, 4, 5, 6, 7, 8, 9, 101, 102, 103, 202]) D I P F γ0 el0 P_1 F_1 gm_1 el_1 → gm_1 6 f = 0 → gm_1 19 f = γ0 6 fo → gm_1 18 f = 0 → gm_1 7 f = 0 → (fI (F_1 q0) 3).toInt = l2_1.toInt → rKb gm_1 el_1 q0 (l2_1.toInt : Int).toNat → (gm_1 16 f ≤ rsum (fun i => γ0 2 (γ0 14 (el0 (γ0 14 q1) i))) (l2_1.toInt : Int).toNat) → (l2_1.toInt : Int) ≤ γ0 6 fo → fI (F_1 q1) 3 = x1 → l2_1.toInt < x1.toInt → fR (F_1 q1) 0 = x2 → x3 = el_1 x2 l2_1.toInt.toNat → fI (F_1 x2) 2 = x4 → tr_RCode_get l2_1 x4 → rBq D I P_1 F_1 gm_1 el_1 f q0 x5 x6 x7 x8 x9 x10 x11 → tl_RCode_copy_29 D I γ0 el0 f fo P F q0 l2_1 q1 x3 x9 x5 x6 x7 x8 (0 : Int32) 81 x12 x13 x14 x15 → fR (x12 x9) 1 = x16 → fR (x12 x3) 1 = x17 → fI (x12 x17) 0 = x18 → fI (x12 x17) 1 = x19 → fI (x12 x17) 2 = x20 → fI (x12 x17) 3 = x21 → fI (x12 x17) 4 = x22 → fI (x12 x17) 5 = x23 → fI (x12 x17) 6 = x24 → rFr [x16] x13 x12 x25 → x25 x16 = .inr (20, [.int x18, .int x19, .int x20, .int x21, .int x22, .int x23, .int x24]) → fI (x25 x3) 2 = x26 → (∀ b, b ≠ x9 → x27 b = x25 b) → x27 x9 = cF (x25 x9) 2 (.int x26) → fI (x27 x3) 3 = x28 → (∀ b, b ≠ x9 → x29 b = x27 b) → x29 x9 = cF (x27 x9) 3 (.int x28) → fR (x29 x9) 1 = x16 → x30 = gSea x14 x9 x16 → x31.toInt = l2_1.toInt + 1 → R x13 x29 x30 x15 x31 k e1 e2 e3 e4 → R P_1 F_1 gm_1 el_1 l2_1 k e1 e2 e3 e4) →
  R s1 s2 s3 s4 s5 k e1 e2 e3 e4
/- tr_RCode_copy: P, F, gm, el -/
def tr_RCode_copy (D : va_G) (I : FieldType → ClassId) (γ0 el0 : Nat → Nat → Nat) (f : Nat) (fo : Nat) (P : List Nat) (F : Nat → va_E) (q0 : Nat) (q1 : Nat) (o1 : List Nat) (o2 : Nat → va_E) (o3 : Nat → Nat → Nat) (o4 : Nat → Nat → Nat) : Prop := ∀ R : (List Nat) → (Nat → va_E) → (Nat → Nat → Nat) → (Nat → Nat → Nat) → Prop,
  (∀ (x1 : Nat → Nat → Nat) (x2 : Nat → Nat → Nat) (x3 : Nat → va_E) (x4 : Nat → Nat → Nat) (x5 : Nat → Nat → Nat) (x6 : Nat → va_E) (x7 : List Nat) (x8 : Nat → Nat → Nat) (x9 : Nat → Nat → Nat) (x10 : Nat → Nat → Nat), x1 = γ0 → x2 = el0 → rGq D I P F x1 x2 f q0 (γ0 6 fo) x3 x4 x5 → tl_RCode_copy_6 D I γ0 el0 f fo P F q0 q1 P x3 x4 x5 (0 : Int32) 117 x6 x7 x8 x9 → x10 = gVal x8 6 f (γ0 6 fo) → R x7 x6 x10 x9) →
  R o1 o2 o3 o4
abbrev ky_196630_Code_copy : gKey := (cX13_copy, 7, "SpillForgeModel$Code", none, [], "copy", fun _ _ => True)
def pg_196630_Code_copy (D : va_G) (I : FieldType → ClassId) (γ0 el0 : Nat → Nat → Nat) (f : Nat) (fo : Nat) (B : Nat) (P196623 : List Nat) (F196624 : Nat → va_E) (q196625 : Nat) (q196626 : Nat) : Option Value → va_W → Nat → Nat → Prop := fun r w dc ds => ∃ (P211054 : List Nat) (F211055 : Nat → va_E) (γ el : Nat → Nat → Nat), r = none ∧ w = va_pl P211054 F211055 ∧ rSk f [1, 2, 3, 101, 102, 103, 202] ([1, 2, 3, 4, 5, 6, 7, 8, 9, 101, 102, 103, 202]) D I P196623 F196624 γ0 el0 P211054 F211055 γ el ∧ (18 * dc + rPh γ0 el0 f ≤ rPh γ el f ∧ ds + rPh γ0 el0 f ≤ rPh γ el f) ∧ rBd γ el f B ∧ γ 6 f = γ0 6 fo ∧ γ 7 f = 0 ∧ γ 16 f ≤ γ0 16 fo ∧ γ 18 f = 0 ∧ tr_RCode_copy D I γ0 el0 f fo P196623 F196624 q196625 q196626 P211054 F211055 γ el
set_option maxRecDepth 100000 in
set_option maxHeartbeats 1500000 in
theorem cg_196630_Code_copy (l : Launch) (hl0 : l.stackTraces = false) (D : va_G) (I : FieldType → ClassId) (γ0 el0 : Nat → Nat → Nat) (f : Nat) (fo : Nat) (B : Nat) (P196623 : List Nat) (F196624 : Nat → va_E) (q196625 : Nat) (q196626 : Nat) (hT0 : RS D I P196623 F196624 γ0 el0) (hzq196625 : rKd γ0 q196625 9) (hzq196626 : rKd γ0 q196626 9) (hf0 : γ0 1 q196625 = f) (hfo0 : γ0 1 q196626 = fo) (hne : fo ≠ f) (hB0 : rBd γ0 el0 f B) (hBk : B ≤ 100000) (x196627 : 0 < γ0 6 fo) (x196628 : γ0 7 fo = 0) (x196629 : γ0 16 fo ≤ B) : CtA (gV D I) l yX13_copy cX13_copy 7 none 8 170 (((387 * B + 6000) - rPh γ0 el0 f) / 18) ((387 * B + 6000) - rPh γ0 el0 f) [.ref q196625, .ref q196626] (va_pl P196623 F196624) (pg_196630_Code_copy D I γ0 el0 f fo B P196623 F196624 q196625 q196626) gNA := by
  refine CtA_of hl0 (by decide) (Nat.le_of_ble_eq_true rfl) ?_
  obtain ⟨gm_0, hγ0⟩ : ∃ z, z = γ0 := ⟨_, rfl⟩
  obtain ⟨el_0, hel0⟩ : ∃ z, z = el0 := ⟨_, rfl⟩
  have hT : RS D I P196623 F196624 gm_0 el_0 := by rw [hγ0, hel0]; exact hT0
  have hst : rSk f [1, 2, 3, 101, 102, 103, 202] ([1, 2, 3, 4, 5, 6, 7, 8, 9, 101, 102, 103, 202]) D I P196623 F196624 γ0 el0 P196623 F196624 gm_0 el_0 := by rw [hγ0, hel0]; exact rSk_rf hT0
  have hph : rPh γ0 el0 f ≤ rPh gm_0 el_0 f := by rw [hγ0, hel0]; exact Nat.le_refl _
  have hB : rBd gm_0 el_0 f B := by rw [hγ0, hel0]; exact hB0
  have htq196625 : rKd gm_0 q196625 9 := by rw [hγ0]; exact hzq196625
  have htq196626 : rKd gm_0 q196626 9 := by rw [hγ0]; exact hzq196626
  have hf1 : gm_0 1 q196625 = f := by rw [hγ0]; exact hf0
  have hfo1 : gm_0 1 q196626 = fo := by rw [hγ0]; exact hfo0
  have x196627n : 0 < gm_0 6 fo := by rw [hγ0]; exact x196627
  have x196628n : gm_0 7 fo = 0 := by rw [hγ0]; exact x196628
  have x196629n : gm_0 16 fo ≤ B := by rw [hγ0]; exact x196629
  have pk196631 : rPh gm_0 el_0 f ≤ 387 * B + 6000 := rm_pk (rM_ge hT htq196625 hf1).1 (rM_bd hB)
  refine G_widen (cs' := ((rPh gm_0 el_0 f - rPh γ0 el0 f) / 18)) (sl' := (rPh gm_0 el_0 f - rPh γ0 el0 f)) (Nat.zero_le _) (Nat.zero_le _) ?_
  have r196632 := rSk_g hst hne
  have r196633 : 0 < gm_0 6 (gm_0 1 q196626) := by rw [hfo1, r196632.1]; exact x196627
  have r196634 : gm_0 6 fo = γ0 6 fo := r196632.1
  have r196635 : gm_0 7 fo = 0 := by rw [r196632.2.1]; exact x196628
  refine G_aload_n 0 dr_cX13_copy_0 rfl ?_
  have rg196636 := rM_ge hT htq196625 hf1
  have rm196637 := rM_bd hB
  have bd196638 := rBd_c hT htq196625 hf1 hB
  refine Gt_beg (c := q196625) (f := f) (γ0 6 fo) hl0 dr_cX13_copy_1 ⟨wr_10_136, wr_1_15, wr_9_88, by decide, rfl, (Nat.le_of_ble_eq_true rfl), (Nat.le_of_ble_eq_true rfl)⟩ wr_9_86 wr_9_87 hT htq196625 hf1 (rm_zc pk196631) (rm_zs pk196631) (Nat.le_of_ble_eq_true rfl) (fun F196639 gm_F196639 el_F196639 hq196640 => ?_)
  have hq196641 := hq196640
  obtain ⟨hk196642, h6196643, h7196644, h16196645, h18196646, h19196647, h23196648, h2196649, hel196650, hmd196651, hr196652, hM196653, hBB196654⟩ := hq196640
  have hk196655 := rSk_of hk196642
  have hT196656 := hk196655.1
  have hs196657 := rSk_tr hst hk196655 (by decide) (by decide) (by decide)
  have ht196658 : rKd gm_F196639 q196625 9 := rSk_k hk196655 htq196625 (by decide) (by decide)
  have hf196659 : gm_F196639 1 q196625 = f := rSk_1 hk196655 htq196625 (by decide) hf1
  have ht196660 : rKd gm_F196639 q196626 9 := rSk_kf hk196655 htq196626 (by decide) (by rw [hfo1]; exact hne)
  have hf196661 : gm_F196639 1 q196626 = fo := rSk_1 hk196655 htq196626 (by decide) hfo1
  clear rg196636 rm196637 bd196638
  have r196662 := rSk_g hs196657 hne
  have r196663 : 0 < gm_F196639 6 (gm_F196639 1 q196626) := by rw [hf196661, r196662.1]; exact x196627
  have r196664 : gm_F196639 6 fo = γ0 6 fo := r196662.1
  have r196665 : gm_F196639 7 fo = 0 := by rw [r196662.2.1]; exact x196628
  have hB196666 : rBd gm_F196639 el_F196639 f B := hBB196654 B hB
  have hph196667 : rPh γ0 el0 f ≤ rPh gm_F196639 el_F196639 f := by rw [hr196652]; exact hph
  have pk196668 : rPh gm_F196639 el_F196639 f ≤ 387 * B + 6000 := rm_pk (rM_ge hT196656 ht196658 hf196659).1 (rM_bd hB196666)
  refine G_widen (cs' := ((rPh gm_F196639 el_F196639 f - rPh γ0 el0 f) / 18)) (sl' := (rPh gm_F196639 el_F196639 f - rPh γ0 el0 f)) (rm_ec hr196652) (rm_es hr196652) ?_
  refine G_iconst 0 dr_cX13_copy_4 (by decide +kernel) ?_
  refine G_istore_n (L' := [(2, .int 0), (0, .ref q196625), (1, .ref q196626)]) dr_cX13_copy_5 (Nat.le_of_ble_eq_true rfl) rfl ?_
  have hlp6_209943 : ∀ (n6_209943 : Nat) (P209930 : List Nat) (F209931 : Nat → va_E) (gm_F209931 el_F209931 : Nat → Nat → Nat) (g209929 : Int32), gB g209929 0 1000000 → RS D I P209930 F209931 gm_F209931 el_F209931 → rSk f [1, 2, 3, 101, 102, 103, 202] ([1, 2, 3, 4, 5, 6, 7, 8, 9, 101, 102, 103, 202]) D I P196623 F196624 γ0 el0 P209930 F209931 gm_F209931 el_F209931 → rPh γ0 el0 f ≤ rPh gm_F209931 el_F209931 f → rBd gm_F209931 el_F209931 f B → gm_F209931 6 f = 0 → gm_F209931 19 f = γ0 6 fo → gm_F209931 18 f = 0 → gm_F209931 7 f = 0 → (fI (F209931 q196625) 3).toInt = g209929.toInt → rKb gm_F209931 el_F209931 q196625 (g209929.toInt : Int).toNat → gm_F209931 16 f ≤ rsum (fun i => γ0 2 (γ0 14 (el0 (γ0 14 q196626) i))) (g209929.toInt : Int).toNat → (g209929.toInt : Int) ≤ γ0 6 fo → (∀ (k : Nat) (e1 : Nat → va_E) (e2 : List Nat) (e3 : Nat → Nat → Nat) (e4 : Nat → Nat → Nat), tl_RCode_copy_6 D I γ0 el0 f fo P196623 F196624 q196625 q196626 P209930 F209931 gm_F209931 el_F209931 g209929 k e1 e2 e3 e4 → tl_RCode_copy_6 D I γ0 el0 f fo P196623 F196624 q196625 q196626 P196623 F196639 gm_F196639 el_F196639 (0 : Int32) k e1 e2 e3 e4) → (γ0 6 fo - (g209929.toInt : Int).toNat) < n6_209943 → G (gV D I) l (gRm 8 170 (((387 * B + 6000) - rPh γ0 el0 f) / 18) ((387 * B + 6000) - rPh γ0 el0 f)) (gMA (gV D I) (pg_196630_Code_copy D I γ0 el0 f fo B P196623 F196624 q196625 q196626) gNA (((387 * B + 6000) - rPh γ0 el0 f) / 18) ((387 * B + 6000) - rPh γ0 el0 f)) ky_196630_Code_copy 6 [(2, .int g209929), (0, .ref q196625), (1, .ref q196626)] [] (va_pl P209930 F209931) ((rPh gm_F209931 el_F209931 f - rPh γ0 el0 f) / 18) (rPh gm_F209931 el_F209931 f - rPh γ0 el0 f) := by
    intro n6_209943
    induction n6_209943 with
    | zero => intro P209930 F209931 gm_F209931 el_F209931 g209929 bg209929 hT209932 hs209933 hph209934 hB209935 x209936 x209937 x209938 x209939 x209940 x209941 x209942 x209943 kt6_209944 hm6_209943; exact absurd hm6_209943 (Nat.not_lt_zero _)
    | succ n6_209943 ih6_209943 =>
      intro P209930 F209931 gm_F209931 el_F209931 g209929 bg209929 hT209932 hs209933 hph209934 hB209935 x209936 x209937 x209938 x209939 x209940 x209941 x209942 x209943 kt6_209944 hm6_209943
      clear h6196643 h7196644 h16196645 h18196646 h19196647 h23196648 h2196649 hmd196651 hr196652 hM196653 r196662 r196663 r196664 r196665 hph196667 pk196668
      have ht209945 : rKd gm_F209931 q196625 9 := rSk_k hs209933 hzq196625 (by decide) (by decide)
      have hf209946 : gm_F209931 1 q196625 = f := rSk_1 hs209933 hzq196625 (by decide) hf0
      have ht209947 : rKd gm_F209931 q196626 9 := rSk_k hs209933 hzq196626 (by decide) (by decide)
      have hf209948 : gm_F209931 1 q196626 = fo := rSk_1 hs209933 hzq196626 (by decide) hfo0
      have pk209949 : rPh gm_F209931 el_F209931 f ≤ 387 * B + 6000 := rm_pk (rM_ge hT209932 ht209945 hf209946).1 (rM_bd hB209935)
      have r209950 := rSk_g hs209933 hne
      have r209951 : 0 < gm_F209931 6 (gm_F209931 1 q196626) := by rw [hf209948, r209950.1]; exact x196627
      have r209952 : gm_F209931 6 fo = γ0 6 fo := r209950.1
      have r209953 : gm_F209931 7 fo = 0 := by rw [r209950.2.1]; exact x196628
      refine G_iload_n 0 dr_cX13_copy_6 rfl ?_
      refine G_aload_n 2 dr_cX13_copy_7 rfl ?_
      have hm209954 : q196626 ∈ P209930 := RS_m hT209932 ht209947 (by decide)
      obtain ⟨q209956, q209957, p209958, p209959, he209955, ht209975, ht209960, ht209961, ht209962, ht209963, r209964, r209965, r209966, r209967, r209968, r209969, r209970, r209971, r209972, r209973, r209974⟩ := show rk_9 gm_F209931 el_F209931 q196626 (F209931 q196626) from RS_o hT209932 ht209947
      have bp209958 : gB p209958 0 1000000 := ⟨by omega, by omega⟩
      have bp209959 : gB p209959 0 1000000 := ⟨by omega, by omega⟩
      have hf209976 : gm_F209931 1 q209956 = fo := (show gm_F209931 1 q209956 = gm_F209931 1 q196626 from ht209961).trans hf209948
      have hf209977 : gm_F209931 1 q209957 = fo := (show gm_F209931 1 q209957 = gm_F209931 1 q196626 from ht209963).trans hf209948
      have r209978 : gm_F209931 6 (gm_F209931 1 q196626) = gm_F209931 6 fo := by rw [hf209948]
      have r209979 : gm_F209931 16 (gm_F209931 1 q196626) = gm_F209931 16 fo := by rw [hf209948]
      have r209980 : p209959.toInt = gm_F209931 6 fo ∧ p209959.toInt ≤ 40 := by omega
      clear r209970
      have fq209981 : fI (F209931 q196626) 3 = p209959 := by rw [he209955]; rfl
      refine Gw_callV (As := []) (gV_ok D I) (cp_12780_Code_size l hl0 D I P209930 F209931 q196626 q209956 q209957 p209958 p209959 hm209954 he209955) dr_cX13_copy_8 ⟨wr_10_137, wr_1_15, wr_9_131, by decide, rfl, (Nat.le_of_ble_eq_true rfl), (Nat.le_of_ble_eq_true rfl)⟩ wr_9_129 wr_9_130 hm209954 he209955 rfl (rm_zc pk209949) (rm_zs pk209949) (Nat.le_of_ble_eq_true rfl) (fun r209985 w209986 dc209982 ds209983 hp209984 => ?_) (fun _ _ _ _ _ z => z.elim)
      obtain ⟨rfl, rfl, hdc, hds⟩ := hp209984
      change G _ _ _ _ _ _ _ (.int p209959 :: _) _ _ _
      refine G_widen (cs' := ((rPh gm_F209931 el_F209931 f - rPh γ0 el0 f) / 18)) (sl' := (rPh gm_F209931 el_F209931 f - rPh γ0 el0 f)) (rm_d0 hdc) (rm_d0 hds) ?_
      refine G_icmp_ge 117 dr_cX13_copy_11 (by decide +kernel) (fun hc209987 => ?_) (fun hc209987 => ?_)
      · have r209988 : p209959.toInt ≤ g209929.toInt := gC_le hc209987
        have hx209989 : tl_RCode_copy_6 D I γ0 el0 f fo P196623 F196624 q196625 q196626 P196623 F196639 gm_F196639 el_F196639 (0 : Int32) 117 F209931 P209930 gm_F209931 el_F209931 := kt6_209944 117 F209931 P209930 gm_F209931 el_F209931 (fun R c1 c2 => c1 P209930 F209931 gm_F209931 el_F209931 g209929 p209959 bg209929 hT209932 hs209933 x209936 x209937 x209938 x209939 x209940 x209941 x209942 x209943 fq209981 r209988)
        have r209990 := RS_valid hT0 hzq196626 hfo0 x196627
        have r209991 : (g209929.toInt : Int).toNat = γ0 6 fo := by omega
        have kb209992 := x209941
        rw [r209991] at kb209992
        have hv209993 := St_val (f := f) (n := γ0 6 fo) hT209932 ht209945 hf209946 (by omega) x196627 (by omega) (by omega) (by omega) kb209992
        obtain ⟨gm_hg209994, hg209994⟩ : ∃ z, z = gVal gm_F209931 6 f (γ0 6 fo) := ⟨_, rfl⟩
        rw [← hg209994] at hv209993
        have hk209995 := rSk_of hv209993.1
        have r209996 := hv209993.2.1
        have hT209997 := hk209995.1
        have hs209998 := rSk_tr hs209933 hk209995 (by decide) (by decide) (by decide)
        have ht209999 : rKd gm_hg209994 q196625 9 := rSk_k hk209995 ht209945 (by decide) (by decide)
        have hf210000 : gm_hg209994 1 q196625 = f := rSk_1 hk209995 ht209945 (by decide) hf209946
        have ht210001 : rKd gm_hg209994 q196626 9 := rSk_kf hk209995 ht209947 (by decide) (by rw [hf209948]; exact hne)
        have hf210002 : gm_hg209994 1 q196626 = fo := rSk_1 hk209995 ht209947 (by decide) hf209948
        have kb210003 : rKb gm_hg209994 el_F209931 q196625 (g209929.toInt : Int).toNat := rKb_t x209941 hk209995 (by decide) (rSk_s hk209995 ht209945 (by decide)).2.1 (fun _ _ => rfl)
        clear r209964 r209965 r209966 r209967 r209968 r209969 r209971 r209972 r209973 r209974 bp209958 bp209959
        have r210004 := rSk_g hs209998 hne
        have r210005 : 0 < gm_hg209994 6 (gm_hg209994 1 q196626) := by rw [hf210002, r210004.1]; exact x196627
        have r210006 : gm_hg209994 6 fo = γ0 6 fo := r210004.1
        have r210007 : gm_hg209994 7 fo = 0 := by rw [r210004.2.1]; exact x196628
        have hB210008 : rBd gm_hg209994 el_F209931 f B := hv209993.2.2.2 B hB209935
        have hph210009 : rPh γ0 el0 f ≤ rPh gm_hg209994 el_F209931 f := by rw [r209996]; exact hph209934
        have pk210010 : rPh gm_hg209994 el_F209931 f ≤ 387 * B + 6000 := rm_pk (rM_ge hT209997 ht209999 hf210000).1 (rM_bd hB210008)
        refine G_widen (cs' := ((rPh gm_hg209994 el_F209931 f - rPh γ0 el0 f) / 18)) (sl' := (rPh gm_hg209994 el_F209931 f - rPh γ0 el0 f)) (rm_ec r209996) (rm_es r209996) ?_
        have r210011 := gVal_n hg209994
        have r210012 := rsum_m (f := fun i => γ0 2 (γ0 14 (el0 (γ0 14 q196626) i))) _ (show (g209929.toInt : Int).toNat ≤ γ0 6 fo by omega)
        exact G_vretA dr_cX13_copy_117 rfl (show ((rPh gm_hg209994 el_F209931 f - rPh γ0 el0 f) / 18) ≤ (((387 * B + 6000) - rPh γ0 el0 f) / 18) by omega) (show (rPh gm_hg209994 el_F209931 f - rPh γ0 el0 f) ≤ ((387 * B + 6000) - rPh γ0 el0 f) by omega) ⟨P209930, F209931, gm_hg209994, el_F209931, rfl, rfl, hs209998, ⟨by omega, by omega⟩, hB210008, (by omega), (by omega), (by omega), (by omega), (fun R c1 => c1 gm_0 el_0 F196639 gm_F196639 el_F196639 F209931 P209930 gm_F209931 el_F209931 gm_hg209994 hγ0 hel0 hq196641 hx209989 hg209994)⟩
      · have r210013 : g209929.toInt < p209959.toInt := gC_nle hc209987
        have bg209929' : gB g209929 0 999999 := ⟨by omega, by omega⟩
        have bp209959' : gB p209959 1 1000000 := ⟨by omega, by omega⟩
        refine G_aload_n 2 dr_cX13_copy_14 rfl ?_
        refine G_iload_n 0 dr_cX13_copy_15 rfl ?_
        have hm210014 : q209956 ∈ P209930 := RS_m hT209932 ht209960 (by decide)
        obtain ⟨⟨p210016, p210017, q210018, he210015, r210019, r210020, r210021, r210023⟩, r210022⟩ := show rk_4 D I gm_F209931 el_F209931 F209931 q209956 from RS_o hT209932 ht209960
        have bp210016 := gB_any p210016
        have bp210017 : gB p210017 0 1000000 := ⟨by omega, by omega⟩
        obtain ⟨r210024, r210025, n210032, f210033, r210026, r210027, r210028, r210029, r210030, r210031⟩ := rLC_n r210021 (by omega)
        have hm210034 : q210018 ∈ P209930 := RS_m hT209932 r210024 (by decide)
        obtain ⟨q210035, hx210036⟩ : ∃ x, x = el_F209931 q209956 g209929.toInt.toNat := ⟨_, rfl⟩
        have fq210040 : fR (F209931 q196626) 0 = q209956 := by rw [he209955]; rfl
        have hx210037 : f210033 g209929.toNatClampNeg = some q210035 := (r210030 _ (show g209929.toInt.toNat < gm_F209931 2 q209956 by first | assumption | omega)).trans (by rw [hx210036])
        have ht210041 : rKd gm_F209931 q210035 2 := by rw [hx210036]; exact (r209971 _ (by omega)).resolve_right (fun z => absurd z.1 (by omega))
        have ht210042 : rFm gm_F209931 q210035 q209956 := by rw [hx210036]; exact (r210022 _ (show g209929.toInt.toNat < gm_F209931 2 q209956 by omega)).2.1
        have hm210043 : q210035 ∈ P209930 := RS_m hT209932 ht210041 (by decide)
        obtain ⟨q210045, q210046, p210047, p210048, he210044, ht210055, ht210049, ht210050, ht210051, ht210052, ht210053, bp210047, bp210048, r210054, r210056, r210057⟩ := show rk_2 gm_F209931 q210035 (F209931 q210035) from RS_o hT209932 ht210041
        have fq210058 : fI (F209931 q209956) 2 = p210017 := by rw [he210015]; rfl
        refine Gw_callV (As := [.int g209929]) (gV_ok D I) (cp_7901_Code_get l hl0 D I P209930 F209931 q196626 q209956 q210018 g209929 q209957 p209958 p209959 p210016 p210017 f210033 n210032 q210035 q210045 q210046 p210047 p210048 hm209954 hm210014 hm210034 hm210043 he209955 he210015 r210026 he210044 (gB_w bg209929' (by decide) (by decide)) (gB_w bp210017 (by decide) (by decide)) (by omega) (by omega) (by assumption) (by omega)) dr_cX13_copy_16 ⟨wr_10_138, wr_1_15, wr_10_141, by decide, rfl, (Nat.le_of_ble_eq_true rfl), (Nat.le_of_ble_eq_true rfl)⟩ wr_10_139 wr_10_140 hm209954 he209955 rfl (rm_zc pk209949) (rm_zs pk209949) (Nat.le_of_ble_eq_true rfl) (fun r210062 w210063 dc210059 ds210060 hp210061 => ?_) (fun _ _ _ _ _ z => z.elim)
        obtain ⟨rfl, rfl, hdc, hds, ht210064⟩ := hp210061
        change G _ _ _ _ _ _ _ (.ref q210035 :: _) _ _ _
        refine G_widen (cs' := ((rPh gm_F209931 el_F209931 f - rPh γ0 el0 f) / 18)) (sl' := (rPh gm_F209931 el_F209931 f - rPh γ0 el0 f)) (rm_d0 hdc) (rm_d0 hds) ?_
        have r210065 := RS_valid hT0 hzq196626 hfo0 x196627
        have r210066 := rSk_o (i := g209929.toInt.toNat) hT0 hs209933 hzq196626 (by rw [hfo0]; exact hne)
        have hx0210067 : q210035 = el0 (γ0 14 q196626) (g209929.toInt : Int).toNat := by rw [hx210036, ← ht209975.1, r210066.1, r210066.2.2.1]
        have hf210068 : gm_F209931 1 q210035 = fo := (show gm_F209931 1 q210035 = gm_F209931 1 q209956 from ht210042).trans ((show gm_F209931 1 q209956 = gm_F209931 1 q196626 from ht209961).trans hf209948)
        refine G_astore_n (L' := [(3, .ref q210035), (2, .int g209929), (0, .ref q196625), (1, .ref q196626)]) dr_cX13_copy_19 (Nat.le_of_ble_eq_true rfl) rfl ?_
        refine G_aload_n 2 dr_cX13_copy_20 rfl ?_
        have rg210069 := rM_ge hT209932 ht209945 hf209946
        have rm210070 := rM_bd hB209935
        have bd210071 := rBd_c hT209932 ht209945 hf209946 hB209935
        refine Gt_block (c := q196625) (f := f) hl0 dr_cX13_copy_21 ⟨wr_10_142, wr_1_15, wr_9_156, by decide, rfl, (Nat.le_of_ble_eq_true rfl), (Nat.le_of_ble_eq_true rfl)⟩ wr_9_154 wr_9_155 hT209932 ht209945 hf209946 (by omega) (Nat.le_trans bd210071.2.1 (by decide)) (rm_cs hph209934 rg210069.1 rm210070 (by decide)) (rm_sl hph209934 rg210069.1 rm210070 rm_s25) (Nat.le_of_ble_eq_true rfl) (fun P210072 F210073 gm_F210073 el_F210073 q210074 dc210075 ds210076 hq210077 => ?_)
        have hq210078 := hq210077
        obtain ⟨hk210079, b0210080, b1210081, ⟨jb210082, j1210083, j2210084, j3210085, j4210086, j5210087, j6210088⟩, hz210089, h16210090, h18210091, hnu210092, hot210093, h45210094, ⟨hr1210095, hr2210096⟩, hM210097, hBB210098⟩ := hq210077
        have hk210099 := rSk_of hk210079
        have hT210100 := hk210099.1
        have hs210101 := rSk_tr hs209933 hk210099 (by decide) (by decide) (by decide)
        have ht210102 : rKd gm_F210073 q196625 9 := rSk_k hk210099 ht209945 (by decide) (by decide)
        have hf210103 : gm_F210073 1 q196625 = f := rSk_1 hk210099 ht209945 (by decide) hf209946
        have ht210104 : rKd gm_F210073 q196626 9 := rSk_kf hk210099 ht209947 (by decide) (by rw [hf209948]; exact hne)
        have hf210105 : gm_F210073 1 q196626 = fo := rSk_1 hk210099 ht209947 (by decide) hf209948
        have ht210106 : rKd gm_F210073 q210035 2 := rSk_kf hk210099 ht210041 (by decide) (by rw [hf210068]; exact hne)
        have hf210107 : gm_F210073 1 q210035 = fo := rSk_1 hk210099 ht210041 (by decide) hf210068
        have kb210108 : rKb gm_F210073 el_F210073 q196625 (g209929.toInt : Int).toNat := rKb_t x209941 hk210099 (by decide) (rSk_s hk210099 ht209945 (by decide)).2.1 (fun i hi => j6210088 i (by omega))
        clear r209964 r209965 r209966 r209967 r209968 r209969 r209971 r209972 r209973 r209974 bp209958 bp209959 bp210047 bp210048 r210056 r210057 rg210069 rm210070 bd210071
        clear r210054
        have r210109 := rSk_g hs210101 hne
        have r210110 : 0 < gm_F210073 6 (gm_F210073 1 q196626) := by rw [hf210105, r210109.1]; exact x196627
        have r210111 : gm_F210073 6 fo = γ0 6 fo := r210109.1
        have r210112 : gm_F210073 7 fo = 0 := by rw [r210109.2.1]; exact x196628
        have r210114 := RS_valid hT0 hzq196626 hfo0 x196627
        have r210113 := (rSk_o (i := g209929.toInt.toNat) hT0 hs210101 hzq196626 (by rw [hfo0]; exact hne)).2.2.2 (by omega)
        rw [← hx0210067] at r210113
        have xs210115 : gm_F210073 2 (gm_F210073 14 q210035) = γ0 2 (γ0 14 q210035) := by rw [r210113.1]; exact r210113.2.1
        have hB210116 : rBd gm_F210073 el_F210073 f B := hBB210098 B (by omega) hB209935
        have r210117 := (rSk_s hk210099 ht209945 (by decide)).2.1
        obtain ⟨nu210118, nu210119, nu210120, nu210121⟩ := hnu210092
        have ht210122 : rKd gm_F210073 q210074 202 := b0210080
        have r210123 : (g209929.toInt : Int).toNat = jb210082 := by omega
        have r210124 : (g209929.toInt : Int).toNat < gm_F210073 2 (gm_F210073 14 q196625) := by rw [r210117, r210123]; exact j3210085
        have r210125 : el_F210073 (gm_F210073 14 q196625) (g209929.toInt : Int).toNat = q210074 := by rw [r210117, r210123]; exact j4210086
        have hph210126 : rPh γ0 el0 f ≤ rPh gm_F210073 el_F210073 f := rm_ph hph209934 hr2210096
        have pk210127 : rPh gm_F210073 el_F210073 f ≤ 387 * B + 6000 := rm_pk (rM_ge hT210100 ht210102 hf210103).1 (rM_bd hB210116)
        refine G_widen (cs' := ((rPh gm_F210073 el_F210073 f - rPh γ0 el0 f) / 18)) (sl' := (rPh gm_F210073 el_F210073 f - rPh γ0 el0 f)) (rm_wc hph209934 hr1210095) (rm_ws hph209934 hr2210096) ?_
        refine G_astore (L' := [(4, .ref q210074), (3, .ref q210035), (2, .int g209929), (0, .ref q196625), (1, .ref q196626)]) dr_cX13_copy_24 (Nat.le_of_ble_eq_true rfl) rfl ?_
        refine G_iconst 0 dr_cX13_copy_26 (by decide +kernel) ?_
        refine G_istore (L' := [(5, .int 0), (4, .ref q210074), (3, .ref q210035), (2, .int g209929), (0, .ref q196625), (1, .ref q196626)]) dr_cX13_copy_27 (Nat.le_of_ble_eq_true rfl) rfl ?_
        have hlp29_210594 : ∀ (n29_210594 : Nat) (P210573 : List Nat) (F210574 : Nat → va_E) (gm_F210574 el_F210574 : Nat → Nat → Nat) (g210572 : Int32), gB g210572 0 1000000 → RS D I P210573 F210574 gm_F210574 el_F210574 → rSk f [1, 2, 3, 101, 102, 103, 202] ([1, 2, 3, 4, 5, 6, 7, 8, 9, 101, 102, 103, 202]) D I P196623 F196624 γ0 el0 P210573 F210574 gm_F210574 el_F210574 → rPh γ0 el0 f ≤ rPh gm_F210574 el_F210574 f → rBd gm_F210574 el_F210574 f B → rKd gm_F210574 q210074 202 → gm_F210574 1 q210074 = f → (g209929.toInt : Int).toNat < gm_F210574 2 (gm_F210574 14 q196625) → el_F210574 (gm_F210574 14 q196625) (g209929.toInt : Int).toNat = q210074 → rKd gm_F210574 q210035 2 → gm_F210574 1 q210035 = fo → gm_F210574 6 f = 0 → gm_F210574 19 f = γ0 6 fo → gm_F210574 18 f = 0 → gm_F210574 7 f = 0 → (fI (F210574 q196625) 3).toInt = g209929.toInt + 1 → rKb gm_F210574 el_F210574 q196625 (g209929.toInt : Int).toNat → gm_F210574 16 f ≤ rsum (fun i => γ0 2 (γ0 14 (el0 (γ0 14 q196626) i))) (g209929.toInt : Int).toNat + (g210572.toInt : Int).toNat → (g209929.toInt : Int) < γ0 6 fo → q210035 = el0 (γ0 14 q196626) (g209929.toInt : Int).toNat → (g210572.toInt : Int) ≤ γ0 2 (γ0 14 q210035) → (∀ (k : Nat) (e1 : Nat → va_E) (e2 : List Nat) (e3 : Nat → Nat → Nat) (e4 : Nat → Nat → Nat), tl_RCode_copy_29 D I γ0 el0 f fo P196623 F196624 q196625 g209929 q196626 q210035 q210074 P210573 F210574 gm_F210574 el_F210574 g210572 k e1 e2 e3 e4 → tl_RCode_copy_29 D I γ0 el0 f fo P196623 F196624 q196625 g209929 q196626 q210035 q210074 P210072 F210073 gm_F210073 el_F210073 (0 : Int32) k e1 e2 e3 e4) → (γ0 2 (γ0 14 q210035) - (g210572.toInt : Int).toNat) < n29_210594 → G (gV D I) l (gRm 8 170 (((387 * B + 6000) - rPh γ0 el0 f) / 18) ((387 * B + 6000) - rPh γ0 el0 f)) (gMA (gV D I) (pg_196630_Code_copy D I γ0 el0 f fo B P196623 F196624 q196625 q196626) gNA (((387 * B + 6000) - rPh γ0 el0 f) / 18) ((387 * B + 6000) - rPh γ0 el0 f)) ky_196630_Code_copy 29 [(5, .int g210572), (4, .ref q210074), (3, .ref q210035), (2, .int g209929), (0, .ref q196625), (1, .ref q196626)] [] (va_pl P210573 F210574) ((rPh gm_F210574 el_F210574 f - rPh γ0 el0 f) / 18) (rPh gm_F210574 el_F210574 f - rPh γ0 el0 f) := by
          intro n29_210594
          induction n29_210594 with
          | zero => intro P210573 F210574 gm_F210574 el_F210574 g210572 bg210572 hT210575 hs210576 hph210577 hB210578 ht210579 hf210580 r210581 r210582 ht210583 hf210584 x210585 x210586 x210587 x210588 x210589 x210590 x210591 x210592 x210593 x210594 kt29_210595 hm29_210594; exact absurd hm29_210594 (Nat.not_lt_zero _)
          | succ n29_210594 ih29_210594 =>
            intro P210573 F210574 gm_F210574 el_F210574 g210572 bg210572 hT210575 hs210576 hph210577 hB210578 ht210579 hf210580 r210581 r210582 ht210583 hf210584 x210585 x210586 x210587 x210588 x210589 x210590 x210591 x210592 x210593 x210594 kt29_210595 hm29_210594
            clear r209978 r209979 r209980 r210019 r210020 r210021 r210023 r210022 r210024 r210025 r210026 r210027 r210028 r210029 r210030 r210031 r210065 r210066 j1210083 j2210084 j3210085 j5210087 h16210090 h18210091 hr1210095 hr2210096 hM210097 r210109 r210110 r210111 r210112 r210114 r210113 r210117 nu210118 nu210119 nu210120 nu210121 r210123 r210124 r210125 hph210126 pk210127
            have ht210596 : rKd gm_F210574 q196625 9 := rSk_k hs210576 hzq196625 (by decide) (by decide)
            have hf210597 : gm_F210574 1 q196625 = f := rSk_1 hs210576 hzq196625 (by decide) hf0
            have ht210598 : rKd gm_F210574 q196626 9 := rSk_k hs210576 hzq196626 (by decide) (by decide)
            have hf210599 : gm_F210574 1 q196626 = fo := rSk_1 hs210576 hzq196626 (by decide) hfo0
            have pk210600 : rPh gm_F210574 el_F210574 f ≤ 387 * B + 6000 := rm_pk (rM_ge hT210575 ht210596 hf210597).1 (rM_bd hB210578)
            have r210601 := rSk_g hs210576 hne
            have r210602 : 0 < gm_F210574 6 (gm_F210574 1 q196626) := by rw [hf210599, r210601.1]; exact x196627
            have r210603 : gm_F210574 6 fo = γ0 6 fo := r210601.1
            have r210604 : gm_F210574 7 fo = 0 := by rw [r210601.2.1]; exact x196628
            have r210606 := RS_valid hT0 hzq196626 hfo0 x196627
            have r210605 := (rSk_o (i := g209929.toInt.toNat) hT0 hs210576 hzq196626 (by rw [hfo0]; exact hne)).2.2.2 (by omega)
            rw [← x210593] at r210605
            have xs210607 : gm_F210574 2 (gm_F210574 14 q210035) = γ0 2 (γ0 14 q210035) := by rw [r210605.1]; exact r210605.2.1
            refine G_iload 0 dr_cX13_copy_29 rfl ?_
            refine G_aload_n 2 dr_cX13_copy_31 rfl ?_
            have hm210608 : q210035 ∈ P210573 := RS_m hT210575 ht210583 (by decide)
            obtain ⟨q210610, q210611, p210612, p210613, he210609, ht210620, ht210614, ht210615, ht210616, ht210617, ht210618, bp210612, bp210613, r210619, r210621, r210622⟩ := show rk_2 gm_F210574 q210035 (F210574 q210035) from RS_o hT210575 ht210583
            have hf210623 : gm_F210574 1 q210610 = fo := (show gm_F210574 1 q210610 = gm_F210574 1 q210035 from ht210615).trans hf210584
            have hf210624 : gm_F210574 1 q210611 = fo := (show gm_F210574 1 q210611 = gm_F210574 1 q210035 from ht210617).trans hf210584
            have r210625 : gm_F210574 6 (gm_F210574 1 q210035) = gm_F210574 6 fo := by rw [hf210584]
            have r210626 : gm_F210574 7 (gm_F210574 1 q210035) = gm_F210574 7 fo := by rw [hf210584]
            have r210627 : gm_F210574 19 (gm_F210574 1 q210035) = gm_F210574 19 fo := by rw [hf210584]
            have r210628 := r210619.resolve_left (by omega)
            clear r210619
            have r210629 : gm_F210574 2 (gm_F210574 14 q210035) = gm_F210574 2 q210610 := by rw [ht210620.1]
            have fq210630 : fR (F210574 q210035) 0 = q210610 := by rw [he210609]; rfl
            refine Gp_get 0 hm210608 he210609 dr_cX13_copy_32 (gk_X12 D I) (Nat.le_of_ble_eq_true rfl) wr_9_219 rfl ?_
            have hm210631 : q210610 ∈ P210573 := RS_m hT210575 ht210614 (by decide)
            obtain ⟨⟨p210633, p210634, q210635, he210632, r210636, r210637, r210638, r210640⟩, r210639⟩ := show rk_3 D I gm_F210574 el_F210574 F210574 q210610 from RS_o hT210575 ht210614
            have bp210633 := gB_any p210633
            have bp210634 : gB p210634 0 1000000 := ⟨by omega, by omega⟩
            have fq210641 : p210634.toInt = (gm_F210574 2 q210610 : Int) := by omega
            have fq210642 : fI (F210574 q210610) 2 = p210634 := by rw [he210632]; rfl
            refine Gw_callV (As := []) (gV_ok D I) (cp_7_ArrayList_size l hl0 D I P210573 F210574 q210610 p210633 q210635 p210634 hm210631 he210632 (gB_w bp210634 (by decide) (by decide))) dr_cX13_copy_35 ⟨wr_9_157, wr_1_18, wr_9_160, by decide, rfl, (Nat.le_of_ble_eq_true rfl), (Nat.le_of_ble_eq_true rfl)⟩ wr_9_158 wr_9_159 hm210631 he210632 rfl (rm_zc pk210600) (rm_zs pk210600) (Nat.le_of_ble_eq_true rfl) (fun r210646 w210647 dc210643 ds210644 hp210645 => ?_) (fun _ _ _ _ _ z => z.elim)
            obtain ⟨rfl, rfl, hdc, hds⟩ := hp210645
            change G _ _ _ _ _ _ _ (.int p210634 :: _) _ _ _
            refine G_widen (cs' := ((rPh gm_F210574 el_F210574 f - rPh γ0 el0 f) / 18)) (sl' := (rPh gm_F210574 el_F210574 f - rPh γ0 el0 f)) (rm_d0 hdc) (rm_d0 hds) ?_
            refine G_icmp_ge 81 dr_cX13_copy_38 (by decide +kernel) (fun hc210648 => ?_) (fun hc210648 => ?_)
            · have r210649 : p210634.toInt ≤ g210572.toInt := gC_le hc210648
              have hx210650 : tl_RCode_copy_29 D I γ0 el0 f fo P196623 F196624 q196625 g209929 q196626 q210035 q210074 P210072 F210073 gm_F210073 el_F210073 (0 : Int32) 81 F210574 P210573 gm_F210574 el_F210574 := kt29_210595 81 F210574 P210573 gm_F210574 el_F210574 (fun R c1 c2 => c1 P210573 F210574 gm_F210574 el_F210574 g210572 q210610 p210634 bg210572 hT210575 hs210576 x210585 x210586 x210587 x210588 x210589 x210590 x210591 x210592 x210593 x210594 fq210630 fq210641 fq210642 r210649)
              refine G_aload 1 dr_cX13_copy_81 rfl ?_
              have hm210651 : q210074 ∈ P210573 := RS_m hT210575 ht210579 (by decide)
              obtain ⟨q210653, q210654, p210655, p210656, he210652, ht210662, ht210657, ht210658, ht210659, ht210660, ht210661, bp210655, bp210656⟩ := show rk_202 gm_F210574 q210074 (F210574 q210074) from RS_o hT210575 ht210579
              have hf210663 : gm_F210574 1 q210653 = f := (show gm_F210574 1 q210653 = gm_F210574 1 q210074 from ht210658).trans hf210580
              have hf210664 : gm_F210574 1 q210654 = f := (show gm_F210574 1 q210654 = gm_F210574 1 q210074 from ht210660).trans hf210580
              have r210665 : gm_F210574 6 (gm_F210574 1 q210074) = gm_F210574 6 f := by rw [hf210580]
              have r210666 : gm_F210574 7 (gm_F210574 1 q210074) = gm_F210574 7 f := by rw [hf210580]
              have r210667 : gm_F210574 19 (gm_F210574 1 q210074) = gm_F210574 19 f := by rw [hf210580]
              have r210668 : gm_F210574 2 (gm_F210574 14 q210074) = gm_F210574 2 q210653 := by rw [ht210662.1]
              have fq210669 : fR (F210574 q210074) 1 = q210654 := by rw [he210652]; rfl
              refine Gp_get 1 hm210651 he210652 dr_cX13_copy_83 (gk_X12 D I) (Nat.le_of_ble_eq_true rfl) wr_9_224 rfl ?_
              refine G_aload_n 2 dr_cX13_copy_86 rfl ?_
              have fq210670 : fR (F210574 q210035) 1 = q210611 := by rw [he210609]; rfl
              refine Gp_get 1 hm210608 he210609 dr_cX13_copy_87 (gk_X12 D I) (Nat.le_of_ble_eq_true rfl) wr_9_224 rfl ?_
              have hm210671 : q210654 ∈ P210573 := RS_m hT210575 ht210659 (by decide)
              obtain ⟨p210673, p210674, p210675, p210676, p210677, p210678, p210679, he210672, bp210673, bp210674, bp210677, bp210678, bp210679, r210680, r210681, r210682⟩ := show rkR (F210574 q210654) from RS_o hT210575 ht210659
              have bp210675 := gB_any p210675
              have bp210676 := gB_any p210676
              have r210683 : gm_F210574 7 (gm_F210574 1 q210654) = gm_F210574 7 f := by rw [hf210664]
              have hm210684 : q210611 ∈ P210573 := RS_m hT210575 ht210616 (by decide)
              obtain ⟨p210686, p210687, p210688, p210689, p210690, p210691, p210692, he210685, bp210686, bp210687, bp210690, bp210691, bp210692, r210693, r210694, r210695, r210696, r210697⟩ := show rk_1 gm_F210574 q210611 (F210574 q210611) from RS_o hT210575 ht210616
              have bp210688 := gB_any p210688
              have bp210689 := gB_any p210689
              have r210698 : gm_F210574 7 (gm_F210574 1 q210611) = gm_F210574 7 fo := by rw [hf210624]
              have fq210699 : fI (F210574 q210611) 0 = p210686 := by rw [he210685]; rfl
              have fq210700 : fI (F210574 q210611) 1 = p210687 := by rw [he210685]; rfl
              have fq210701 : fI (F210574 q210611) 2 = p210688 := by rw [he210685]; rfl
              have fq210702 : fI (F210574 q210611) 3 = p210689 := by rw [he210685]; rfl
              have fq210703 : fI (F210574 q210611) 4 = p210690 := by rw [he210685]; rfl
              have fq210704 : fI (F210574 q210611) 5 = p210691 := by rw [he210685]; rfl
              have fq210705 : fI (F210574 q210611) 6 = p210692 := by rw [he210685]; rfl
              refine Gw_callV (As := [.ref q210611]) (gV_ok D I) (cp_1728_Row_put l hl0 D I P210573 F210574 q210654 q210611 p210673 p210674 p210675 p210676 p210677 p210678 p210679 p210686 p210687 p210688 p210689 p210690 p210691 p210692 hm210671 hm210684 he210672 he210685 (rn_ty ht210659 ht210616 (by decide)) bp210673 bp210674 bp210677 bp210678 bp210679 bp210686 bp210687 bp210690 bp210691 bp210692) dr_cX13_copy_90 ⟨wr_10_144, wr_1_39, wr_10_147, by decide, rfl, (Nat.le_of_ble_eq_true rfl), (Nat.le_of_ble_eq_true rfl)⟩ wr_10_145 wr_10_146 hm210671 he210672 rfl (rm_zc pk210600) (rm_zs pk210600) (Nat.le_of_ble_eq_true rfl) (fun r210709 w210710 dc210706 ds210707 hp210708 => ?_) (fun _ _ _ _ _ z => z.elim)
              obtain ⟨F210711, rfl, rfl, hfr210713, he210714, he210715, hdc, hds⟩ := hp210708
              have he210716 : F210711 q210035 = .inr (17, [.ref q210610, .ref q210611, .int p210612, .int p210613]) := (hfr210713 q210035 hm210608 (nm_c (rn_oo he210609 he210672 (by decide)) nm_n)).trans he210609
              have he210717 : F210711 q210610 = .inr (4, [.int p210633, .ref q210635, .int p210634]) := (hfr210713 q210610 hm210631 (nm_c (rn_oo he210632 he210672 (by decide)) nm_n)).trans he210632
              have he210718 : F210711 q210074 = .inr (17, [.ref q210653, .ref q210654, .int p210655, .int p210656]) := (hfr210713 q210074 hm210651 (nm_c (rn_oo he210652 he210672 (by decide)) nm_n)).trans he210652
              have hfr210719 : rFr [q210654] P210573 F210574 F210711 := rFr_call (rSub_rf (P := P210573)) (rFr_rf (W := []) (P := P210573) (F := F210574)) hfr210713 (fun b hb hn => ⟨nm_n, (nm_c (fun e => hn (e ▸ List.mem_cons_self)) nm_n)⟩)
              change G _ _ _ _ _ _ _ _ _ _ _
              refine G_widen (cs' := ((rPh gm_F210574 el_F210574 f - rPh γ0 el0 f) / 18)) (sl' := (rPh gm_F210574 el_F210574 f - rPh γ0 el0 f)) (rm_d0 hdc) (rm_d0 hds) ?_
              have hT210720 : RS D I P210573 F210711 gm_F210574 el_F210574 := RS_fr hT210575 hfr210719 ht210659 (by decide) ⟨p210686, p210687, p210688, p210689, p210690, p210691, p210692, he210714, bp210686, bp210687, bp210690, bp210691, bp210692, r210693, r210694, r210695⟩
              have hs210721 := rSk_fr hs210576 hT210720 hfr210719 ht210659 (by decide) (by decide) (Or.inr (Or.inl hf210664))
              have md210722 : (fI (F210711 q196625) 3).toInt = (fI (F210574 q196625) 3).toInt := by rw [hfr210719 q196625 (RS_m hT210575 ht210596 (by decide)) (nm_c (rn_ty ht210596 ht210659 (by decide)) nm_n)]
              refine G_aload 1 dr_cX13_copy_93 rfl ?_
              refine G_aload_n 2 dr_cX13_copy_95 rfl ?_
              have fq210723 : fI (F210711 q210035) 2 = p210612 := by rw [he210716]; rfl
              refine Gp_get 2 hm210608 he210716 dr_cX13_copy_96 (gk_X12 D I) (Nat.le_of_ble_eq_true rfl) wr_9_227 rfl ?_
              refine Gp_put 2 hm210651 he210718 dr_cX13_copy_99 (gk_X12 D I) (Nat.le_of_ble_eq_true rfl) wr_9_227 rfl rfl rfl (Nat.le_of_ble_eq_true rfl) (fun F210724 e210725 n210726 => ?_)
              have he210727 : F210724 q210035 = .inr (17, [.ref q210610, .ref q210611, .int p210612, .int p210613]) := (n210726 q210035 (rn_ty ht210583 ht210579 (by decide))).trans he210716
              have he210728 : F210724 q210610 = .inr (4, [.int p210633, .ref q210635, .int p210634]) := (n210726 q210610 (rn_oo he210717 he210718 (by decide))).trans he210717
              have he210729 : F210724 q210654 = .inr (20, [.int p210686, .int p210687, .int p210688, .int p210689, .int p210690, .int p210691, .int p210692]) := (n210726 q210654 (rn_oo he210714 he210718 (by decide))).trans he210714
              have he210730 : F210724 q210611 = .inr (20, [.int p210686, .int p210687, .int p210688, .int p210689, .int p210690, .int p210691, .int p210692]) := (n210726 q210611 (rn_oo he210715 he210718 (by decide))).trans he210715
              have he210731 : F210724 q210074 = .inr (17, [.ref q210653, .ref q210654, .int p210612, .int p210656]) := e210725
              have fq210732 : F210724 q210074 = cF (F210711 q210074) 2 (.int p210612) := by rw [he210731, he210718]; rfl
              refine G_aload 1 dr_cX13_copy_102 rfl ?_
              refine G_aload_n 2 dr_cX13_copy_104 rfl ?_
              have fq210733 : fI (F210724 q210035) 3 = p210613 := by rw [he210727]; rfl
              refine Gp_get 3 hm210608 he210727 dr_cX13_copy_105 (gk_X12 D I) (Nat.le_of_ble_eq_true rfl) wr_9_231 rfl ?_
              refine Gp_put 3 hm210651 he210731 dr_cX13_copy_108 (gk_X12 D I) (Nat.le_of_ble_eq_true rfl) wr_9_231 rfl rfl rfl (Nat.le_of_ble_eq_true rfl) (fun F210734 e210735 n210736 => ?_)
              have he210737 : F210734 q210035 = .inr (17, [.ref q210610, .ref q210611, .int p210612, .int p210613]) := (n210736 q210035 (rn_ty ht210583 ht210579 (by decide))).trans he210727
              have he210738 : F210734 q210610 = .inr (4, [.int p210633, .ref q210635, .int p210634]) := (n210736 q210610 (rn_oo he210728 he210731 (by decide))).trans he210728
              have he210739 : F210734 q210654 = .inr (20, [.int p210686, .int p210687, .int p210688, .int p210689, .int p210690, .int p210691, .int p210692]) := (n210736 q210654 (rn_oo he210729 he210731 (by decide))).trans he210729
              have he210740 : F210734 q210611 = .inr (20, [.int p210686, .int p210687, .int p210688, .int p210689, .int p210690, .int p210691, .int p210692]) := (n210736 q210611 (rn_oo he210730 he210731 (by decide))).trans he210730
              have he210741 : F210734 q210074 = .inr (17, [.ref q210653, .ref q210654, .int p210612, .int p210613]) := e210735
              have n210742 : ∀ b, b ≠ q210074 → F210734 b = F210711 b := fun b hb => (n210736 b hb).trans (n210726 b hb)
              have fq210743 : F210734 q210074 = cF (F210724 q210074) 3 (.int p210613) := by rw [he210741, he210731]; rfl
              have hT210744 : RS D I P210573 F210734 gm_F210574 el_F210574 := RS_set hT210720 n210742 ht210579 (by decide) ⟨q210653, q210654, p210612, p210613, he210741, ht210662, ht210657, ht210658, ht210659, ht210660, ht210661, bp210612, bp210613⟩
              have hs210745 := rSk_put hs210721 hT210744 n210742 ht210579 (by decide) (by decide) (Or.inr (Or.inl hf210580))
              have md210746 : (fI (F210734 q196625) 3).toInt = (fI (F210711 q196625) 3).toInt := by rw [n210742 q196625 (rn_ty ht210596 ht210579 (by decide))]
              have hx210747 : rk_1 gm_F210574 q210654 (F210734 q210654) := ⟨p210686, p210687, p210688, p210689, p210690, p210691, p210692, he210739, bp210686, bp210687, bp210690, bp210691, bp210692, r210693, r210694, r210695, (Or.inl (r210696.resolve_right (by omega))), (Or.inr (r210697.resolve_left (fun z => absurd (ht210618.2.symm.trans z) (by decide))))⟩
              have hv210748 := St_seal (f := f) hT210744 ht210579 hf210580 he210741 ht210596 hf210597 (by omega) (by omega) (by omega) hx210747
              have hv210748 := And.intro hv210748 (gSea_ph (γ := gm_F210574) (el := el_F210574) (f := f) (b := q210074) (n := q210654))
              obtain ⟨gm_hg210749, hg210749⟩ : ∃ z, z = gSea gm_F210574 q210074 q210654 := ⟨_, rfl⟩
              have fq210750 : fR (F210734 q210074) 1 = q210654 := by rw [he210741]; rfl
              rw [← hg210749] at hv210748
              have hk210751 := rSk_of hv210748.1
              have r210752 := hv210748.2.1
              have hT210753 := hk210751.1
              have hs210754 := rSk_tr hs210745 hk210751 (by decide) (by decide) (by decide)
              have ht210755 : rKd gm_hg210749 q196625 9 := rSk_k hk210751 ht210596 (by decide) (by decide)
              have hf210756 : gm_hg210749 1 q196625 = f := rSk_1 hk210751 ht210596 (by decide) hf210597
              have ht210757 : rKd gm_hg210749 q196626 9 := rSk_kf hk210751 ht210598 (by decide) (by rw [hf210599]; exact hne)
              have hf210758 : gm_hg210749 1 q196626 = fo := rSk_1 hk210751 ht210598 (by decide) hf210599
              have ht210759 : rKd gm_hg210749 q210035 2 := rSk_kf hk210751 ht210583 (by decide) (by rw [hf210584]; exact hne)
              have hf210760 : gm_hg210749 1 q210035 = fo := rSk_1 hk210751 ht210583 (by decide) hf210584
              have ht210761 : rKd gm_hg210749 q210610 3 := rSk_kf hk210751 ht210614 (by decide) (by rw [hf210623]; exact hne)
              have hf210762 : gm_hg210749 1 q210610 = fo := rSk_1 hk210751 ht210614 (by decide) hf210623
              have ht210763 : rKd gm_hg210749 q210653 3 := rSk_k hk210751 ht210657 (by decide) (by decide)
              have hf210764 : gm_hg210749 1 q210653 = f := rSk_1 hk210751 ht210657 (by decide) hf210663
              have kb210765 : rKb gm_hg210749 el_F210574 q196625 (g209929.toInt : Int).toNat := rKb_t x210590 hk210751 (by decide) (rSk_s hk210751 ht210596 (by decide)).2.1 (fun _ _ => rfl)
              clear bp210612 bp210613 r210621 r210622 bp210655 bp210656 bp210673 bp210674 bp210677 bp210678 bp210679 bp210675 bp210676 bp210686 bp210687 bp210690 bp210691 bp210692 bp210688 bp210689
              clear r210680 r210681 r210682 r210693 r210694 r210695 r210696 r210697
              have r210766 := rSk_g hs210754 hne
              have r210767 : 0 < gm_hg210749 6 (gm_hg210749 1 q196626) := by rw [hf210758, r210766.1]; exact x196627
              have r210768 : gm_hg210749 6 fo = γ0 6 fo := r210766.1
              have r210769 : gm_hg210749 7 fo = 0 := by rw [r210766.2.1]; exact x196628
              have r210771 := RS_valid hT0 hzq196626 hfo0 x196627
              have r210770 := (rSk_o (i := g209929.toInt.toNat) hT0 hs210754 hzq196626 (by rw [hfo0]; exact hne)).2.2.2 (by omega)
              rw [← x210593] at r210770
              have xs210772 : gm_hg210749 2 (gm_hg210749 14 q210035) = γ0 2 (γ0 14 q210035) := by rw [r210770.1]; exact r210770.2.1
              have hB210773 : rBd gm_hg210749 el_F210574 f B := hv210748.2.2.2 B hB210578
              have hph210774 : rPh γ0 el0 f ≤ rPh gm_hg210749 el_F210574 f := by rw [r210752]; exact hph210577
              have pk210775 : rPh gm_hg210749 el_F210574 f ≤ 387 * B + 6000 := rm_pk (rM_ge hT210753 ht210755 hf210756).1 (rM_bd hB210773)
              refine G_widen (cs' := ((rPh gm_hg210749 el_F210574 f - rPh γ0 el0 f) / 18)) (sl' := (rPh gm_hg210749 el_F210574 f - rPh γ0 el0 f)) (rm_ec r210752) (rm_es r210752) ?_
              have r210776 := gSea_n hg210749 f
              have kb210777 : rKb gm_hg210749 el_F210574 q196625 (g209929.toInt + 1 : Int).toNat := rKb_s kb210765 (by omega) (by rw [(rSk_s hk210751 ht210596 (by decide)).2.1, r210582, hg210749]; exact if_pos rfl)
              obtain ⟨z210778, hz210778⟩ : ∃ z : Int32, z = g209929 + Int32.ofInt 1 := ⟨_, rfl⟩
              have ez210778 : z210778.toInt = g209929.toInt + 1 := gI_inc hz210778 (by decide) bg209929' (by decide) (by decide)
              have bz210778 : gB z210778 1 1000000 := ⟨by omega, by omega⟩
              refine G_iinc (L' := [(2, .int z210778), (5, .int g210572), (4, .ref q210074), (3, .ref q210035), (0, .ref q196625), (1, .ref q196626)]) z210778 3 dr_cX13_copy_111 rfl hz210778.symm (Nat.le_of_ble_eq_true rfl) rfl ?_
              refine G_goto 6 dr_cX13_copy_114 (by decide +kernel) ?_
              refine G_lv (L' := [(2, .int z210778), (0, .ref q196625), (1, .ref q196626)]) [0, 4, 5] rfl ?_
              have rs210779 : rsum (fun i => γ0 2 (γ0 14 (el0 (γ0 14 q196626) i))) z210778.toInt.toNat = rsum (fun i => γ0 2 (γ0 14 (el0 (γ0 14 q196626) i))) g209929.toInt.toNat + γ0 2 (γ0 14 (el0 (γ0 14 q196626) g209929.toInt.toNat)) := rsum_1 (by omega) (by omega)
              rw [← x210593] at rs210779
              exact ih6_209943 P210573 F210734 gm_hg210749 el_F210574 z210778 (gB_w bz210778 (by decide) (by decide)) hT210753 hs210754 hph210774 hB210773 (by omega) (by omega) (by omega) (by omega) (by omega) (by rw [show z210778.toInt.toNat = (g209929.toInt + 1 : Int).toNat by omega]; exact kb210777) (by omega) (by omega) (fun k e1 e2 e3 e4 ht => kt6_209944 k e1 e2 e3 e4 (fun R c1 c2 => c2 P209930 F209931 gm_F209931 el_F209931 g209929 p209959 q209956 q210035 p210017 P210072 F210073 gm_F210073 el_F210073 q210074 dc210075 ds210076 F210574 P210573 gm_F210574 el_F210574 q210654 q210611 p210686 p210687 p210688 p210689 p210690 p210691 p210692 F210711 p210612 F210724 p210613 F210734 gm_hg210749 z210778 k e1 e2 e3 e4 bg209929 hT209932 hs209933 x209936 x209937 x209938 x209939 x209940 x209941 x209942 x209943 fq209981 r210013 fq210040 hx210036 fq210058 ht210064 hq210078 hx210650 fq210669 fq210670 fq210699 fq210700 fq210701 fq210702 fq210703 fq210704 fq210705 hfr210719 he210714 fq210723 n210726 fq210732 fq210733 n210736 fq210743 fq210750 hg210749 ez210778 (ht R c1 c2))) (rm_m1 ez210778 bg209929'.1 x210592 hm6_209943)
            · have r210780 : g210572.toInt < p210634.toInt := gC_nle hc210648
              have bg210572' : gB g210572 0 999999 := ⟨by omega, by omega⟩
              have bp210634' : gB p210634 1 1000000 := ⟨by omega, by omega⟩
              have jl210781 : (g210572.toInt : Int) < γ0 2 (γ0 14 q210035) := by omega
              refine G_aload_n 4 dr_cX13_copy_41 rfl ?_
              have r210782 := (RS_valid hT0 hzq196626 hfo0 x196627).2.2.2.2
              have r210783 : rsum (fun i => γ0 2 (γ0 14 (el0 (γ0 14 q196626) i))) (g209929.toInt + 1).toNat = rsum (fun i => γ0 2 (γ0 14 (el0 (γ0 14 q196626) i))) g209929.toInt.toNat + γ0 2 (γ0 14 (el0 (γ0 14 q196626) g209929.toInt.toNat)) := rsum_1 rfl bg209929'.1
              rw [← x210593] at r210783
              have r210784 : rsum (fun i => γ0 2 (γ0 14 (el0 (γ0 14 q196626) i))) (g209929.toInt + 1).toNat ≤ rsum (fun i => γ0 2 (γ0 14 (el0 (γ0 14 q196626) i))) (γ0 6 fo) := rsum_m _ (rm_tn x210592)
              have r210786 : gm_F210574 16 f + 1 ≤ B := by omega
              have rg210787 := rM_ge hT210575 ht210596 hf210597
              have rm210788 := rM_bd hB210578
              have bd210789 := rBd_c hT210575 ht210596 hf210597 hB210578
              have rc210790 := rc_at hT210575 ht210596 hf210597
              obtain ⟨q210797, hl210798⟩ : ∃ z, z = gm_F210574 14 q210074 := ⟨_, rfl⟩
              have hl210799 : gm_F210574 0 q210797 = 3 ∨ gm_F210574 0 q210797 = 103 := by rw [hl210798, ← r210582]; exact (RS_lst hT210575 rc210790.2.1 r210581).1
              refine Gt_row (c := q196625) (f := f) hl0 dr_cX13_copy_42 ⟨wr_10_143, wr_1_15, wr_10_82, by decide, rfl, (Nat.le_of_ble_eq_true rfl), (Nat.le_of_ble_eq_true rfl)⟩ wr_10_80 wr_10_81 hT210575 ht210596 hf210597 (Nat.le_trans bd210789.2.2.1 (Nat.le_trans hBk (by decide))) (rm_cs hph210577 rg210787.2.1 rm210788 (by decide)) (rm_sl hph210577 rg210787.2.1 rm210788 rm_s18) (Nat.le_of_ble_eq_true rfl) (fun P210791 F210792 gm_F210792 el_F210792 q210793 dc210794 ds210795 hq210796 => ?_)
              have hq210800 := hq210796
              obtain ⟨hk210801, x0210802, x1210803, x22210804, x8210805, h16210806, h18210807, hnu210808, hot210809, h45210810, hf0210811, ⟨hr1210812, hr2210813⟩, hM210814, hBB210815⟩ := hq210796
              have hk210816 := rSk_of hk210801
              have hT210817 := hk210816.1
              have hs210818 := rSk_tr hs210576 hk210816 (by decide) (by decide) (by decide)
              have ht210819 : rKd gm_F210792 q196625 9 := rSk_k hk210816 ht210596 (by decide) (by decide)
              have hf210820 : gm_F210792 1 q196625 = f := rSk_1 hk210816 ht210596 (by decide) hf210597
              have ht210821 : rKd gm_F210792 q196626 9 := rSk_kf hk210816 ht210598 (by decide) (by rw [hf210599]; exact hne)
              have hf210822 : gm_F210792 1 q196626 = fo := rSk_1 hk210816 ht210598 (by decide) hf210599
              have ht210823 : rKd gm_F210792 q210074 202 := rSk_k hk210816 ht210579 (by decide) (by decide)
              have hf210824 : gm_F210792 1 q210074 = f := rSk_1 hk210816 ht210579 (by decide) hf210580
              have ht210825 : rKd gm_F210792 q210035 2 := rSk_kf hk210816 ht210583 (by decide) (by rw [hf210584]; exact hne)
              have hf210826 : gm_F210792 1 q210035 = fo := rSk_1 hk210816 ht210583 (by decide) hf210584
              have ht210827 : rKd gm_F210792 q210610 3 := rSk_kf hk210816 ht210614 (by decide) (by rw [hf210623]; exact hne)
              have hf210828 : gm_F210792 1 q210610 = fo := rSk_1 hk210816 ht210614 (by decide) hf210623
              have r210829 := (rSk_s hk210816 ht210596 (by decide)).2.1
              have r210830 := hot210809 _ (by rw [rc210790.2.1]; decide) (by rw [rc210790.2.1]; decide)
              have r210831 : (g209929.toInt : Int).toNat < gm_F210792 2 (gm_F210792 14 q196625) := by rw [r210829, r210830.1]; exact r210581
              have r210832 : el_F210792 (gm_F210792 14 q196625) (g209929.toInt : Int).toNat = q210074 := by rw [r210829, r210830.2]; exact r210582
              have kb210833 : rKb gm_F210792 el_F210792 q196625 (g209929.toInt : Int).toNat := rKb_t x210590 hk210816 (by decide) r210829 (fun i _ => by rw [r210830.2])
              clear bp210612 bp210613 r210621 r210622 rg210787 rm210788 bd210789 rc210790
              have r210834 := rSk_g hs210818 hne
              have r210835 : 0 < gm_F210792 6 (gm_F210792 1 q196626) := by rw [hf210822, r210834.1]; exact x196627
              have r210836 : gm_F210792 6 fo = γ0 6 fo := r210834.1
              have r210837 : gm_F210792 7 fo = 0 := by rw [r210834.2.1]; exact x196628
              have r210839 := RS_valid hT0 hzq196626 hfo0 x196627
              have r210838 := (rSk_o (i := g209929.toInt.toNat) hT0 hs210818 hzq196626 (by rw [hfo0]; exact hne)).2.2.2 (by omega)
              rw [← x210593] at r210838
              have xs210840 : gm_F210792 2 (gm_F210792 14 q210035) = γ0 2 (γ0 14 q210035) := by rw [r210838.1]; exact r210838.2.1
              have sz210841 := (rSk_s hk210816 ht210579 (by decide)).2.1
              have sz210842 := congrArg (gm_F210792 2) sz210841
              have sz210843 := (hot210809 q210797 (by omega) (by omega)).1
              rw [hl210798] at sz210843
              clear hl210799
              have sz210844 := (hot210809 q210610 (rT0 ht210614 (by decide)) (by rw [show _ = 3 from ht210614]; decide)).1
              obtain ⟨nu210845, nu210846, nu210847, nu210848⟩ := hnu210808
              have r210849 := hf0210811.2.2
              have hB210850 : rBd gm_F210792 el_F210792 f B := hBB210815 B r210786 hB210578
              have ht210851 : rKd gm_F210792 q210793 101 := x0210802
              have r210852 : gm_F210792 8 q210793 < gm_F210792 16 f := rm_x8 x8210805 h16210806 rfl
              have hph210853 : rPh γ0 el0 f ≤ rPh gm_F210792 el_F210792 f := rm_ph hph210577 hr2210813
              have pk210854 : rPh gm_F210792 el_F210792 f ≤ 387 * B + 6000 := rm_pk (rM_ge hT210817 ht210819 hf210820).1 (rM_bd hB210850)
              have hm210855 : q210793 ∈ P210791 := RS_m hT210817 ht210851 (by decide)
              obtain ⟨p210857, p210858, p210859, p210860, p210861, p210862, p210863, he210856, bp210857, bp210858, bp210861, bp210862, bp210863, r210864, r210865, r210866⟩ := show rkR (F210792 q210793) from RS_o hT210817 ht210851
              have bp210859 := gB_any p210859
              have bp210860 := gB_any p210860
              have r210867 : gm_F210792 7 (gm_F210792 1 q210793) = gm_F210792 7 f := by rw [x1210803]
              have r210868 : p210862.toInt = 0 := by have z := hf0210811.1; rw [he210856] at z; exact z
              have bp210862' : gB p210862 0 0 := ⟨by omega, by omega⟩
              have r210869 : p210863.toInt = 0 := by have z := hf0210811.2.1; rw [he210856] at z; exact z
              have bp210863' : gB p210863 0 0 := ⟨by omega, by omega⟩
              refine G_widen (cs' := ((rPh gm_F210792 el_F210792 f - rPh γ0 el0 f) / 18)) (sl' := (rPh gm_F210792 el_F210792 f - rPh γ0 el0 f)) (rm_wc hph210577 hr1210812) (rm_ws hph210577 hr2210813) ?_
              refine G_astore (L' := [(6, .ref q210793), (5, .int g210572), (4, .ref q210074), (3, .ref q210035), (2, .int g209929), (0, .ref q196625), (1, .ref q196626)]) dr_cX13_copy_45 (Nat.le_of_ble_eq_true rfl) rfl ?_
              refine G_aload 0 dr_cX13_copy_47 rfl ?_
              refine G_aload_n 3 dr_cX13_copy_49 rfl ?_
              have hm210870 : q210035 ∈ P210791 := RS_m hT210817 ht210825 (by decide)
              obtain ⟨q210872, q210873, p210874, p210875, he210871, ht210882, ht210876, ht210877, ht210878, ht210879, ht210880, bp210874, bp210875, r210881, r210883, r210884⟩ := show rk_2 gm_F210792 q210035 (F210792 q210035) from RS_o hT210817 ht210825
              have hf210885 : gm_F210792 1 q210872 = fo := (show gm_F210792 1 q210872 = gm_F210792 1 q210035 from ht210877).trans hf210826
              have hf210886 : gm_F210792 1 q210873 = fo := (show gm_F210792 1 q210873 = gm_F210792 1 q210035 from ht210879).trans hf210826
              have r210887 : gm_F210792 6 (gm_F210792 1 q210035) = gm_F210792 6 fo := by rw [hf210826]
              have r210888 : gm_F210792 7 (gm_F210792 1 q210035) = gm_F210792 7 fo := by rw [hf210826]
              have r210889 : gm_F210792 19 (gm_F210792 1 q210035) = gm_F210792 19 fo := by rw [hf210826]
              have r210890 := r210881.resolve_left (by omega)
              clear r210881
              have r210891 : gm_F210792 2 (gm_F210792 14 q210035) = gm_F210792 2 q210872 := by rw [ht210882.1]
              have fq210892 : fR (F210792 q210035) 0 = q210872 := by rw [he210871]; rfl
              refine Gp_get 0 hm210870 he210871 dr_cX13_copy_50 (gk_X12 D I) (Nat.le_of_ble_eq_true rfl) wr_9_219 rfl ?_
              have jl210893 : g210572.toInt.toNat < gm_F210792 2 q210872 := rm_ix bg210572'.1 jl210781 xs210840 (by rw [ht210882.1])
              refine G_iload 1 dr_cX13_copy_53 rfl ?_
              have hm210894 : q210872 ∈ P210791 := RS_m hT210817 ht210876 (by decide)
              obtain ⟨⟨p210896, p210897, q210898, he210895, r210899, r210900, r210901, r210903⟩, r210902⟩ := show rk_3 D I gm_F210792 el_F210792 F210792 q210872 from RS_o hT210817 ht210876
              have bp210896 := gB_any p210896
              have bp210897 : gB p210897 0 1000000 := ⟨by omega, by omega⟩
              obtain ⟨r210904, r210905, n210912, f210913, r210906, r210907, r210908, r210909, r210910, r210911⟩ := rLC_n r210901 (by omega)
              have hm210914 : q210898 ∈ P210791 := RS_m hT210817 r210904 (by decide)
              obtain ⟨q210915, hx210916⟩ : ∃ x, x = el_F210792 q210872 g210572.toInt.toNat := ⟨_, rfl⟩
              have hx210917 : f210913 g210572.toNatClampNeg = some q210915 := (r210910 _ (show g210572.toInt.toNat < gm_F210792 2 q210872 by first | assumption | omega)).trans (by rw [hx210916])
              have ht210918 : rKd gm_F210792 q210915 1 := by rw [hx210916]; exact (r210902 _ (show g210572.toInt.toNat < gm_F210792 2 q210872 by first | assumption | omega)).1
              have ht210919 : rFm gm_F210792 q210915 q210872 := by rw [hx210916]; exact (r210902 _ (show g210572.toInt.toNat < gm_F210792 2 q210872 by first | assumption | omega)).2.1
              have hf210920 : gm_F210792 1 q210915 = fo := (show gm_F210792 1 q210915 = gm_F210792 1 q210872 from ht210919).trans hf210885
              have fq210921 : fI (F210792 q210872) 2 = p210897 := by rw [he210895]; rfl
              refine Gw_callV (As := [.int g210572]) (gV_ok D I) (cp_22_ArrayList_get l hl0 D I P210791 F210792 q210872 q210898 g210572 p210896 p210897 f210913 n210912 q210915 hm210894 hm210914 he210895 r210906 (gB_w bg210572' (by decide) (by decide)) (gB_w bp210897 (by decide) (by decide)) (by omega) (by omega) (by assumption) (by omega)) dr_cX13_copy_55 ⟨wr_10_62, wr_1_18, wr_10_65, by decide, rfl, (Nat.le_of_ble_eq_true rfl), (Nat.le_of_ble_eq_true rfl)⟩ wr_10_63 wr_10_64 hm210894 he210895 rfl (rm_zc pk210854) (rm_zs pk210854) (Nat.le_of_ble_eq_true rfl) (fun r210925 w210926 dc210922 ds210923 hp210924 => ?_) (fun _ _ _ _ _ z => z.elim)
              obtain ⟨rfl, rfl, hdc, hds, ht210927⟩ := hp210924
              change G _ _ _ _ _ _ _ (.ref q210915 :: _) _ _ _
              refine G_widen (cs' := ((rPh gm_F210792 el_F210792 f - rPh γ0 el0 f) / 18)) (sl' := (rPh gm_F210792 el_F210792 f - rPh γ0 el0 f)) (rm_d0 hdc) (rm_d0 hds) ?_
              have hm210928 : q210915 ∈ P210791 := RS_m hT210817 ht210918 (by decide)
              obtain ⟨p210930, p210931, p210932, p210933, p210934, p210935, p210936, he210929, bp210930, bp210931, bp210934, bp210935, bp210936, r210937, r210938, r210939, r210940, r210941⟩ := show rk_1 gm_F210792 q210915 (F210792 q210915) from RS_o hT210817 ht210918
              have bp210932 := gB_any p210932
              have bp210933 := gB_any p210933
              have r210942 : gm_F210792 7 (gm_F210792 1 q210915) = gm_F210792 7 fo := by rw [hf210920]
              refine Gp_cast hm210928 he210929 rfl dr_cX13_copy_58 wr_10_83 (gr_cast 1 rfl) ?_
              have fq210943 : fI (F210792 q210915) 0 = p210930 := by rw [he210929]; rfl
              have fq210944 : fI (F210792 q210915) 1 = p210931 := by rw [he210929]; rfl
              have fq210945 : fI (F210792 q210915) 2 = p210932 := by rw [he210929]; rfl
              have fq210946 : fI (F210792 q210915) 3 = p210933 := by rw [he210929]; rfl
              have fq210947 : fI (F210792 q210915) 4 = p210934 := by rw [he210929]; rfl
              have fq210948 : fI (F210792 q210915) 5 = p210935 := by rw [he210929]; rfl
              have fq210949 : fI (F210792 q210915) 6 = p210936 := by rw [he210929]; rfl
              refine Gw_callV (As := [.ref q210915]) (gV_ok D I) (cp_1728_Row_put l hl0 D I P210791 F210792 q210793 q210915 p210857 p210858 p210859 p210860 p210861 p210862 p210863 p210930 p210931 p210932 p210933 p210934 p210935 p210936 hm210855 hm210928 he210856 he210929 (rn_ty ht210851 ht210918 (by decide)) bp210857 bp210858 bp210861 (gB_w bp210862' (by decide) (by decide)) (gB_w bp210863' (by decide) (by decide)) bp210930 bp210931 bp210934 bp210935 bp210936) dr_cX13_copy_61 ⟨wr_10_144, wr_1_39, wr_10_147, by decide, rfl, (Nat.le_of_ble_eq_true rfl), (Nat.le_of_ble_eq_true rfl)⟩ wr_10_145 wr_10_146 hm210855 he210856 rfl (rm_zc pk210854) (rm_zs pk210854) (Nat.le_of_ble_eq_true rfl) (fun r210953 w210954 dc210950 ds210951 hp210952 => ?_) (fun _ _ _ _ _ z => z.elim)
              obtain ⟨F210955, rfl, rfl, hfr210957, he210958, he210959, hdc, hds⟩ := hp210952
              have he210960 : F210955 q210035 = .inr (17, [.ref q210872, .ref q210873, .int p210874, .int p210875]) := (hfr210957 q210035 hm210870 (nm_c (rn_oo he210871 he210856 (by decide)) nm_n)).trans he210871
              have he210961 : F210955 q210872 = .inr (4, [.int p210896, .ref q210898, .int p210897]) := (hfr210957 q210872 hm210894 (nm_c (rn_oo he210895 he210856 (by decide)) nm_n)).trans he210895
              have he210962 : F210955 q210898 = .inl (I (.object "java/lang/Object"), n210912, .inr (.inr (.inr (.inr f210913)))) := (hfr210957 q210898 hm210914 (nm_c (rn_ao r210906 he210856) nm_n)).trans r210906
              have hfr210963 : rFr [q210793] P210791 F210792 F210955 := rFr_call (rSub_rf (P := P210791)) (rFr_rf (W := []) (P := P210791) (F := F210792)) hfr210957 (fun b hb hn => ⟨nm_n, (nm_c (fun e => hn (e ▸ List.mem_cons_self)) nm_n)⟩)
              change G _ _ _ _ _ _ _ _ _ _ _
              refine G_widen (cs' := ((rPh gm_F210792 el_F210792 f - rPh γ0 el0 f) / 18)) (sl' := (rPh gm_F210792 el_F210792 f - rPh γ0 el0 f)) (rm_d0 hdc) (rm_d0 hds) ?_
              have hT210964 : RS D I P210791 F210955 gm_F210792 el_F210792 := RS_fr hT210817 hfr210963 ht210851 (by decide) ⟨p210930, p210931, p210932, p210933, p210934, p210935, p210936, he210958, bp210930, bp210931, bp210934, bp210935, bp210936, r210937, r210938, r210939⟩
              have hs210965 := rSk_fr hs210818 hT210964 hfr210963 ht210851 (by decide) (by decide) (Or.inr (Or.inl x1210803))
              have md210966 : (fI (F210955 q196625) 3).toInt = (fI (F210792 q196625) 3).toInt := by rw [hfr210963 q196625 (RS_m hT210817 ht210819 (by decide)) (nm_c (rn_ty ht210819 ht210851 (by decide)) nm_n)]
              refine G_aload 2 dr_cX13_copy_64 rfl ?_
              have hm210967 : q210074 ∈ P210791 := RS_m hT210964 ht210823 (by decide)
              obtain ⟨q210969, q210970, p210971, p210972, he210968, ht210978, ht210973, ht210974, ht210975, ht210976, ht210977, bp210971, bp210972⟩ := show rk_202 gm_F210792 q210074 (F210955 q210074) from RS_o hT210964 ht210823
              have hf210979 : gm_F210792 1 q210969 = f := (show gm_F210792 1 q210969 = gm_F210792 1 q210074 from ht210974).trans hf210824
              have hf210980 : gm_F210792 1 q210970 = f := (show gm_F210792 1 q210970 = gm_F210792 1 q210074 from ht210976).trans hf210824
              have r210981 : gm_F210792 6 (gm_F210792 1 q210074) = gm_F210792 6 f := by rw [hf210824]
              have r210982 : gm_F210792 7 (gm_F210792 1 q210074) = gm_F210792 7 f := by rw [hf210824]
              have r210983 : gm_F210792 19 (gm_F210792 1 q210074) = gm_F210792 19 f := by rw [hf210824]
              have r210984 : gm_F210792 2 (gm_F210792 14 q210074) = gm_F210792 2 q210969 := by rw [ht210978.1]
              have fq210985 : fR (F210955 q210074) 0 = q210969 := by rw [he210968]; rfl
              refine Gp_get 0 hm210967 he210968 dr_cX13_copy_66 (gk_X12 D I) (Nat.le_of_ble_eq_true rfl) wr_9_219 rfl ?_
              refine G_aload 0 dr_cX13_copy_69 rfl ?_
              have rg210986 := rM_ge hT210964 ht210819 hf210820
              have rm210987 := rM_bd hB210850
              have bd210988 := rBd_c hT210964 ht210819 hf210820 hB210850
              have rc210989 := rc_at hT210964 ht210819 hf210820
              have r210991 : gm_F210792 14 (el_F210792 (gm_F210792 14 q196625) (g209929.toInt : Int).toNat) = q210969 := by rw [r210832]; exact ht210978.1
              have r210992 := rg210986.2.2 _ r210831
              rw [r210991] at r210992
              have r210993 := bd210988.2.2.2 _ r210831
              rw [r210991] at r210993
              have r210994 : gm_F210792 7 (gm_F210792 1 q210793) = gm_F210792 7 f := by rw [x1210803]
              have hx210995 : rk_1 gm_F210792 q210793 (F210955 q210793) := ⟨p210930, p210931, p210932, p210933, p210934, p210935, p210936, he210958, bp210930, bp210931, bp210934, bp210935, bp210936, r210937, r210938, r210939, (Or.inl (r210940.resolve_right (by omega))), (Or.inl x22210804)⟩
              refine Gt_add (c := q196625) (f := f) hl0 dr_cX13_copy_71 ⟨wr_10_3, wr_1_18, wr_10_6, by decide, rfl, (Nat.le_of_ble_eq_true rfl), (Nat.le_of_ble_eq_true rfl)⟩ wr_10_4 wr_10_5 hT210964 ht210973 hf210979 ht210851 x1210803 x22210804 r210852 (by omega) ht210819 hf210820 r210831 r210991 hx210995 (Nat.le_trans r210993 (Nat.le_trans hBk (by decide))) (rm_cs hph210853 r210992 rm210987 (by decide)) (rm_sl hph210853 r210992 rm210987 rm_s11) (Nat.le_of_ble_eq_true rfl) (fun P210996 F210990 gm_F210990 el_F210990 dc210997 ds210998 hq210999 => ?_)
              have hq211000 := hq210999
              obtain ⟨hk211001, x0211002, h2211003, hel211004, hot211005, h16211006, h18211007, hnu211008, hFx211009, hr211010, hM211011, hBB211012⟩ := hq210999
              have hk211013 := rSk_of hk211001
              have r211014 : (fI (F210990 q196625) 3).toInt = (fI (F210955 q196625) 3).toInt := by rw [rSk_F hk211013 ht210819 (by decide) (by decide)]
              have hT211015 := hk211013.1
              have hs211016 := rSk_tr hs210965 hk211013 (by decide) (by decide) (by decide)
              have ht211017 : rKd gm_F210990 q196625 9 := rSk_k hk211013 ht210819 (by decide) (by decide)
              have hf211018 : gm_F210990 1 q196625 = f := rSk_1 hk211013 ht210819 (by decide) hf210820
              have ht211019 : rKd gm_F210990 q196626 9 := rSk_kf hk211013 ht210821 (by decide) (by rw [hf210822]; exact hne)
              have hf211020 : gm_F210990 1 q196626 = fo := rSk_1 hk211013 ht210821 (by decide) hf210822
              have ht211021 : rKd gm_F210990 q210074 202 := rSk_k hk211013 ht210823 (by decide) (by decide)
              have hf211022 : gm_F210990 1 q210074 = f := rSk_1 hk211013 ht210823 (by decide) hf210824
              have ht211023 : rKd gm_F210990 q210035 2 := rSk_kf hk211013 ht210825 (by decide) (by rw [hf210826]; exact hne)
              have hf211024 : gm_F210990 1 q210035 = fo := rSk_1 hk211013 ht210825 (by decide) hf210826
              have ht211025 : rKd gm_F210990 q210610 3 := rSk_kf hk211013 ht210827 (by decide) (by rw [hf210828]; exact hne)
              have hf211026 : gm_F210990 1 q210610 = fo := rSk_1 hk211013 ht210827 (by decide) hf210828
              have ht211027 : rKd gm_F210990 q210872 3 := rSk_kf hk211013 ht210876 (by decide) (by rw [hf210885]; exact hne)
              have hf211028 : gm_F210990 1 q210872 = fo := rSk_1 hk211013 ht210876 (by decide) hf210885
              have ht211029 : rKd gm_F210990 q210969 3 := rSk_k hk211013 ht210973 (by decide) (by decide)
              have hf211030 : gm_F210990 1 q210969 = f := rSk_1 hk211013 ht210973 (by decide) hf210979
              have r211031 := (rSk_s hk211013 ht210819 (by decide)).2.1
              have r211032 := hot211005 _ (by rw [rc210989.2.1]; decide) (fun q => by rw [q, show _ = 3 from ht210973] at rc210989; exact absurd rc210989.2.1 (by decide))
              have r211033 : (g209929.toInt : Int).toNat < gm_F210990 2 (gm_F210990 14 q196625) := by rw [r211031, r211032.1]; exact r210831
              have r211034 : el_F210990 (gm_F210990 14 q196625) (g209929.toInt : Int).toNat = q210074 := by rw [r211031, r211032.2]; exact r210832
              have kb211035 : rKb gm_F210990 el_F210990 q196625 (g209929.toInt : Int).toNat := rKb_t kb210833 hk211013 (by decide) r211031 (fun i _ => by rw [r211032.2])
              clear bp210857 bp210858 bp210861 bp210862 bp210863 bp210859 bp210860 bp210874 bp210875 r210883 r210884 bp210930 bp210931 bp210934 bp210935 bp210936 bp210932 bp210933 bp210971 bp210972 rg210986 rm210987 bd210988 rc210989 r210992 r210993
              clear r210864 r210865 r210866 r210937 r210938 r210939 r210940 r210941
              have r211036 := rSk_g hs211016 hne
              have r211037 : 0 < gm_F210990 6 (gm_F210990 1 q196626) := by rw [hf211020, r211036.1]; exact x196627
              have r211038 : gm_F210990 6 fo = γ0 6 fo := r211036.1
              have r211039 : gm_F210990 7 fo = 0 := by rw [r211036.2.1]; exact x196628
              have r211041 := RS_valid hT0 hzq196626 hfo0 x196627
              have r211040 := (rSk_o (i := g209929.toInt.toNat) hT0 hs211016 hzq196626 (by rw [hfo0]; exact hne)).2.2.2 (by omega)
              rw [← x210593] at r211040
              have xs211042 : gm_F210990 2 (gm_F210990 14 q210035) = γ0 2 (γ0 14 q210035) := by rw [r211040.1]; exact r211040.2.1
              first | have sz211043 := (hot211005 q210610 (rT0 ht210827 (by decide)) (by assumption)).1 | skip
              first | have sz211044 := (hot211005 q210872 (rT0 ht210876 (by decide)) (by assumption)).1 | skip
              obtain ⟨nu211045, nu211046, nu211047, nu211048⟩ := hnu211008
              have ht211049 : rKd gm_F210990 q210793 1 := x0211002
              have hB211050 : rBd gm_F210990 el_F210990 f B := hBB211012 B hB210850
              have hph211051 : rPh γ0 el0 f ≤ rPh gm_F210990 el_F210990 f := rm_ph hph210853 hr211010.2
              have pk211052 : rPh gm_F210990 el_F210990 f ≤ 387 * B + 6000 := rm_pk (rM_ge hT211015 ht211017 hf211018).1 (rM_bd hB211050)
              refine G_widen (cs' := ((rPh gm_F210990 el_F210990 f - rPh γ0 el0 f) / 18)) (sl' := (rPh gm_F210990 el_F210990 f - rPh γ0 el0 f)) (rm_wc hph210853 hr211010.1) (rm_ws hph210853 hr211010.2) ?_
              refine G_pop dr_cX13_copy_74 rfl ?_
              obtain ⟨z211053, hz211053⟩ : ∃ z : Int32, z = g210572 + Int32.ofInt 1 := ⟨_, rfl⟩
              have ez211053 : z211053.toInt = g210572.toInt + 1 := gI_inc hz211053 (by decide) bg210572' (by decide) (by decide)
              have bz211053 : gB z211053 1 1000000 := ⟨by omega, by omega⟩
              refine G_iinc (L' := [(5, .int z211053), (6, .ref q210793), (4, .ref q210074), (3, .ref q210035), (2, .int g209929), (0, .ref q196625), (1, .ref q196626)]) z211053 1 dr_cX13_copy_75 rfl hz211053.symm (Nat.le_of_ble_eq_true rfl) rfl ?_
              refine G_goto 29 dr_cX13_copy_78 (by decide +kernel) ?_
              refine G_lv (L' := [(5, .int z211053), (4, .ref q210074), (3, .ref q210035), (2, .int g209929), (0, .ref q196625), (1, .ref q196626)]) [0, 2, 3, 4, 5, 6] rfl ?_
              exact ih29_210594 P210996 F210990 gm_F210990 el_F210990 z211053 (gB_w bz211053 (by decide) (by decide)) hT211015 hs211016 hph211051 hB211050 ht211021 hf211022 r211033 r211034 ht211023 hf211024 (by omega) (by omega) (by omega) (by omega) (by omega) kb211035 (by omega) (by omega) x210593 (by omega) (fun k e1 e2 e3 e4 ht => kt29_210595 k e1 e2 e3 e4 (fun R c1 c2 => c2 P210573 F210574 gm_F210574 el_F210574 g210572 q210610 p210634 P210791 F210792 gm_F210792 el_F210792 q210793 dc210794 ds210795 q210872 q210915 p210897 p210930 p210931 p210932 p210933 p210934 p210935 p210936 F210955 q210969 P210996 F210990 gm_F210990 el_F210990 dc210997 ds210998 z211053 k e1 e2 e3 e4 bg210572 hT210575 hs210576 x210585 x210586 x210587 x210588 x210589 x210590 x210591 x210592 x210593 x210594 fq210630 fq210641 fq210642 r210780 hq210800 fq210892 hx210916 fq210921 ht210927 fq210943 fq210944 fq210945 fq210946 fq210947 fq210948 fq210949 hfr210963 he210958 fq210985 hq211000 ez211053 (ht R c1 c2))) (rm_m1 ez211053 bg210572'.1 jl210781 hm29_210594)
        exact hlp29_210594 ((γ0 2 (γ0 14 q210035) - (0 : Int).toNat) + 1) P210072 F210073 gm_F210073 el_F210073 0 (gB_w (gBl (show Int32.toInt 0 = 0 by decide)) (by decide) (by decide)) hT210100 hs210101 hph210126 hB210116 ht210122 b1210081 r210124 r210125 ht210106 hf210107 (by have qa0 : Int32.toInt 0 = 0 := (by decide); omega) (by have qa0 : Int32.toInt 0 = 0 := (by decide); omega) (by have qa0 : Int32.toInt 0 = 0 := (by decide); omega) (by have qa0 : Int32.toInt 0 = 0 := (by decide); omega) (by have qa0 : Int32.toInt 0 = 0 := (by decide); omega) kb210108 (by have qa0 : Int32.toInt 0 = 0 := (by decide); omega) (by have qa0 : Int32.toInt 0 = 0 := (by decide); omega) hx0210067 (by have qa0 : Int32.toInt 0 = 0 := (by decide); omega) (fun k e1 e2 e3 e4 ht => ht) (Nat.lt_succ_self _)
  exact hlp6_209943 ((γ0 6 fo - (0 : Int).toNat) + 1) P196623 F196639 gm_F196639 el_F196639 0 (gB_w (gBl (show Int32.toInt 0 = 0 by decide)) (by decide) (by decide)) hT196656 hs196657 hph196667 hB196666 (by have qa0 : Int32.toInt 0 = 0 := (by decide); omega) (by have qa0 : Int32.toInt 0 = 0 := (by decide); omega) (by have qa0 : Int32.toInt 0 = 0 := (by decide); omega) (by have qa0 : Int32.toInt 0 = 0 := (by decide); omega) (by have qa0 : Int32.toInt 0 = 0 := (by decide); omega) rKb_0 (by show gm_F196639 16 f ≤ 0; omega) (by have qa0 : Int32.toInt 0 = 0 := (by decide); omega) (fun k e1 e2 e3 e4 ht => ht) (Nat.lt_succ_self _)
