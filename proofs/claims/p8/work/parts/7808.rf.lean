theorem dr_cX17_load_0 : decode cX17_load 0 = .ok (.aload_n 0, 1) := by decide +kernel
theorem dr_cX17_load_1 : decode cX17_load 1 = .ok (.getfield 231, 3) := by decide +kernel
theorem wr_7_88 : (Jvm.Cond.fieldLink "SpillForgeModel" (231 : Nat) "SpillForgeModel" "temporaries" "I") ∈ gw := gw_7 88 rfl rfl
theorem dr_cX17_load_4 : decode cX17_load 4 = .ok (.sipush 2000, 3) := by decide +kernel
theorem dr_cX17_load_7 : decode cX17_load 7 = .ok (.if_icmp .ne 5, 3) := by decide +kernel
theorem dr_cX17_load_12 : decode cX17_load 12 = .ok (.aload_n 1, 1) := by decide +kernel
theorem dr_cX17_load_13 : decode cX17_load 13 = .ok (.invokevirtual 177, 3) := by decide +kernel
theorem wr_10_206 : (Jvm.Cond.methodLink "SpillForgeModel" (177 : Nat) ({ cls := "SpillForgeModel$Code", name := "row", desc := "()LSpillForgeModel$Row;" } : Jvm.MethodName)) ∈ gw := gw_10 206 rfl rfl
theorem wr_10_82 : (Jvm.Cond.code ({ cls := "SpillForgeModel$Code", name := "row", desc := "()LSpillForgeModel$Row;" } : Jvm.MethodName) prog_16_method_4_code (2 : Nat) (Option.some (Jvm.ClassFile.FieldType.object "SpillForgeModel$Row"))) ∈ gw := gw_10 82 rfl rfl
theorem wr_10_80 : (Jvm.Cond.instanceMethod ({ cls := "SpillForgeModel$Code", name := "row", desc := "()LSpillForgeModel$Row;" } : Jvm.MethodName)) ∈ gw := gw_10 80 rfl rfl
theorem wr_10_81 : (Jvm.Cond.selects "SpillForgeModel$Code" ({ cls := "SpillForgeModel$Code", name := "row", desc := "()LSpillForgeModel$Row;" } : Jvm.MethodName) ({ cls := "SpillForgeModel$Code", name := "row", desc := "()LSpillForgeModel$Row;" } : Jvm.MethodName)) ∈ gw := gw_10 81 rfl rfl
theorem dr_cX17_load_16 : decode cX17_load 16 = .ok (.astore 5, 2) := by decide +kernel
theorem dr_cX17_load_18 : decode cX17_load 18 = .ok (.aload 5, 2) := by decide +kernel
theorem dr_cX17_load_20 : decode cX17_load 20 = .ok (.bipush 21, 2) := by decide +kernel
theorem dr_cX17_load_22 : decode cX17_load 22 = .ok (.putfield 39, 3) := by decide +kernel
theorem dr_cX17_load_25 : decode cX17_load 25 = .ok (.aload 5, 2) := by decide +kernel
theorem dr_cX17_load_27 : decode cX17_load 27 = .ok (.aload_n 0, 1) := by decide +kernel
theorem dr_cX17_load_28 : decode cX17_load 28 = .ok (.getfield 231, 3) := by decide +kernel
theorem dr_cX17_load_31 : decode cX17_load 31 = .ok (.putfield 52, 3) := by decide +kernel
theorem dr_cX17_load_34 : decode cX17_load 34 = .ok (.aload 5, 2) := by decide +kernel
theorem dr_cX17_load_36 : decode cX17_load 36 = .ok (.iload 4, 2) := by decide +kernel
theorem dr_cX17_load_38 : decode cX17_load 38 = .ok (.putfield 45, 3) := by decide +kernel
theorem dr_cX17_load_41 : decode cX17_load 41 = .ok (.aload_n 2, 1) := by decide +kernel
theorem dr_cX17_load_42 : decode cX17_load 42 = .ok (.getfield 117, 3) := by decide +kernel
theorem dr_cX17_load_45 : decode cX17_load 45 = .ok (.iload_n 3, 1) := by decide +kernel
theorem dr_cX17_load_46 : decode cX17_load 46 = .ok (.aload 5, 2) := by decide +kernel
theorem dr_cX17_load_48 : decode cX17_load 48 = .ok (.invokevirtual 181, 3) := by decide +kernel
theorem wr_10_207 : (Jvm.Cond.methodLink "SpillForgeModel" (181 : Nat) ({ cls := "java/util/ArrayList", name := "add", desc := "(ILjava/lang/Object;)V" } : Jvm.MethodName)) ∈ gw := gw_10 207 rfl rfl
theorem wr_10_210 : (Jvm.Cond.code ({ cls := "java/util/ArrayList", name := "add", desc := "(ILjava/lang/Object;)V" } : Jvm.MethodName) prog_43_method_26_code (5 : Nat) (Option.none : Option Jvm.ClassFile.FieldType)) ∈ gw := gw_10 210 rfl rfl
theorem wr_10_208 : (Jvm.Cond.instanceMethod ({ cls := "java/util/ArrayList", name := "add", desc := "(ILjava/lang/Object;)V" } : Jvm.MethodName)) ∈ gw := gw_10 208 rfl rfl
theorem wr_10_209 : (Jvm.Cond.selects "java/util/ArrayList" ({ cls := "java/util/ArrayList", name := "add", desc := "(ILjava/lang/Object;)V" } : Jvm.MethodName) ({ cls := "java/util/ArrayList", name := "add", desc := "(ILjava/lang/Object;)V" } : Jvm.MethodName)) ∈ gw := gw_10 209 rfl rfl
theorem dr_cX17_load_51 : decode cX17_load 51 = .ok (.aload_n 0, 1) := by decide +kernel
theorem dr_cX17_load_52 : decode cX17_load 52 = .ok (.dup, 1) := by decide +kernel
theorem dr_cX17_load_53 : decode cX17_load 53 = .ok (.getfield 231, 3) := by decide +kernel
theorem dr_cX17_load_56 : decode cX17_load 56 = .ok (.iconst 1, 1) := by decide +kernel
theorem dr_cX17_load_57 : decode cX17_load 57 = .ok (.iadd, 1) := by decide +kernel
theorem dr_cX17_load_58 : decode cX17_load 58 = .ok (.putfield 231, 3) := by decide +kernel
theorem dr_cX17_load_61 : decode cX17_load 61 = .ok (.aload 5, 2) := by decide +kernel
theorem dr_cX17_load_63 : decode cX17_load 63 = .ok (.getfield 52, 3) := by decide +kernel
theorem dr_cX17_load_66 : decode cX17_load 66 = .ok (.ireturn, 1) := by decide +kernel
theorem dr_cX17_load_10 : decode cX17_load 10 = .ok (.iconst (-1), 1) := by decide +kernel
theorem dr_cX17_load_11 : decode cX17_load 11 = .ok (.ireturn, 1) := by decide +kernel
theorem dr_cX13_copy_0 : decode cX13_copy 0 = .ok (.aload_n 0, 1) := by decide +kernel
theorem dr_cX13_copy_1 : decode cX13_copy 1 = .ok (.invokevirtual 73, 3) := by decide +kernel
theorem wr_10_136 : (Jvm.Cond.methodLink "SpillForgeModel$Code" (73 : Nat) ({ cls := "SpillForgeModel$Code", name := "begin", desc := "()V" } : Jvm.MethodName)) ∈ gw := gw_10 136 rfl rfl
theorem wr_9_88 : (Jvm.Cond.code ({ cls := "SpillForgeModel$Code", name := "begin", desc := "()V" } : Jvm.MethodName) prog_16_method_2_code (1 : Nat) (Option.none : Option Jvm.ClassFile.FieldType)) ∈ gw := gw_9 88 rfl rfl
theorem wr_9_86 : (Jvm.Cond.instanceMethod ({ cls := "SpillForgeModel$Code", name := "begin", desc := "()V" } : Jvm.MethodName)) ∈ gw := gw_9 86 rfl rfl
theorem wr_9_87 : (Jvm.Cond.selects "SpillForgeModel$Code" ({ cls := "SpillForgeModel$Code", name := "begin", desc := "()V" } : Jvm.MethodName) ({ cls := "SpillForgeModel$Code", name := "begin", desc := "()V" } : Jvm.MethodName)) ∈ gw := gw_9 87 rfl rfl
theorem dr_cX13_copy_4 : decode cX13_copy 4 = .ok (.iconst 0, 1) := by decide +kernel
theorem dr_cX13_copy_5 : decode cX13_copy 5 = .ok (.istore_n 2, 1) := by decide +kernel
theorem dr_cX13_copy_6 : decode cX13_copy 6 = .ok (.iload_n 2, 1) := by decide +kernel
theorem dr_cX13_copy_7 : decode cX13_copy 7 = .ok (.aload_n 1, 1) := by decide +kernel
theorem dr_cX13_copy_8 : decode cX13_copy 8 = .ok (.invokevirtual 76, 3) := by decide +kernel
theorem wr_10_137 : (Jvm.Cond.methodLink "SpillForgeModel$Code" (76 : Nat) ({ cls := "SpillForgeModel$Code", name := "size", desc := "()I" } : Jvm.MethodName)) ∈ gw := gw_10 137 rfl rfl
theorem dr_cX13_copy_11 : decode cX13_copy 11 = .ok (.if_icmp .ge 106, 3) := by decide +kernel
theorem dr_cX13_copy_117 : decode cX13_copy 117 = .ok (.return_, 1) := by decide +kernel
theorem dr_cX13_copy_14 : decode cX13_copy 14 = .ok (.aload_n 1, 1) := by decide +kernel
theorem dr_cX13_copy_15 : decode cX13_copy 15 = .ok (.iload_n 2, 1) := by decide +kernel
theorem dr_cX13_copy_16 : decode cX13_copy 16 = .ok (.invokevirtual 67, 3) := by decide +kernel
theorem dr_cX13_copy_19 : decode cX13_copy 19 = .ok (.astore_n 3, 1) := by decide +kernel
theorem dr_cX13_copy_20 : decode cX13_copy 20 = .ok (.aload_n 0, 1) := by decide +kernel
theorem dr_cX13_copy_21 : decode cX13_copy 21 = .ok (.invokevirtual 77, 3) := by decide +kernel
theorem wr_10_142 : (Jvm.Cond.methodLink "SpillForgeModel$Code" (77 : Nat) ({ cls := "SpillForgeModel$Code", name := "block", desc := "()LSpillForgeModel$Block;" } : Jvm.MethodName)) ∈ gw := gw_10 142 rfl rfl
theorem wr_9_156 : (Jvm.Cond.code ({ cls := "SpillForgeModel$Code", name := "block", desc := "()LSpillForgeModel$Block;" } : Jvm.MethodName) prog_16_method_3_code (2 : Nat) (Option.some (Jvm.ClassFile.FieldType.object "SpillForgeModel$Block"))) ∈ gw := gw_9 156 rfl rfl
theorem wr_9_154 : (Jvm.Cond.instanceMethod ({ cls := "SpillForgeModel$Code", name := "block", desc := "()LSpillForgeModel$Block;" } : Jvm.MethodName)) ∈ gw := gw_9 154 rfl rfl
theorem wr_9_155 : (Jvm.Cond.selects "SpillForgeModel$Code" ({ cls := "SpillForgeModel$Code", name := "block", desc := "()LSpillForgeModel$Block;" } : Jvm.MethodName) ({ cls := "SpillForgeModel$Code", name := "block", desc := "()LSpillForgeModel$Block;" } : Jvm.MethodName)) ∈ gw := gw_9 155 rfl rfl
theorem dr_cX13_copy_24 : decode cX13_copy 24 = .ok (.astore 4, 2) := by decide +kernel
theorem dr_cX13_copy_26 : decode cX13_copy 26 = .ok (.iconst 0, 1) := by decide +kernel
theorem dr_cX13_copy_27 : decode cX13_copy 27 = .ok (.istore 5, 2) := by decide +kernel
theorem dr_cX13_copy_29 : decode cX13_copy 29 = .ok (.iload 5, 2) := by decide +kernel
theorem dr_cX13_copy_31 : decode cX13_copy 31 = .ok (.aload_n 3, 1) := by decide +kernel
theorem dr_cX13_copy_32 : decode cX13_copy 32 = .ok (.getfield 41, 3) := by decide +kernel
theorem dr_cX13_copy_35 : decode cX13_copy 35 = .ok (.invokevirtual 26, 3) := by decide +kernel
theorem dr_cX13_copy_38 : decode cX13_copy 38 = .ok (.if_icmp .ge 43, 3) := by decide +kernel
theorem dr_cX13_copy_81 : decode cX13_copy 81 = .ok (.aload 4, 2) := by decide +kernel
theorem dr_cX13_copy_83 : decode cX13_copy 83 = .ok (.getfield 89, 3) := by decide +kernel
theorem wr_9_224 : (Jvm.Cond.fieldLink "SpillForgeModel$Code" (89 : Nat) "SpillForgeModel$Block" "end" "LSpillForgeModel$Row;") ∈ gw := gw_9 224 rfl rfl
theorem dr_cX13_copy_86 : decode cX13_copy 86 = .ok (.aload_n 3, 1) := by decide +kernel
theorem dr_cX13_copy_87 : decode cX13_copy 87 = .ok (.getfield 89, 3) := by decide +kernel
theorem dr_cX13_copy_90 : decode cX13_copy 90 = .ok (.invokevirtual 85, 3) := by decide +kernel
theorem wr_10_144 : (Jvm.Cond.methodLink "SpillForgeModel$Code" (85 : Nat) ({ cls := "SpillForgeModel$Row", name := "put", desc := "(LSpillForgeModel$Row;)V" } : Jvm.MethodName)) ∈ gw := gw_10 144 rfl rfl
theorem wr_10_147 : (Jvm.Cond.code ({ cls := "SpillForgeModel$Row", name := "put", desc := "(LSpillForgeModel$Row;)V" } : Jvm.MethodName) prog_18_method_6_code (2 : Nat) (Option.none : Option Jvm.ClassFile.FieldType)) ∈ gw := gw_10 147 rfl rfl
theorem wr_10_145 : (Jvm.Cond.instanceMethod ({ cls := "SpillForgeModel$Row", name := "put", desc := "(LSpillForgeModel$Row;)V" } : Jvm.MethodName)) ∈ gw := gw_10 145 rfl rfl
theorem wr_10_146 : (Jvm.Cond.selects "SpillForgeModel$Row" ({ cls := "SpillForgeModel$Row", name := "put", desc := "(LSpillForgeModel$Row;)V" } : Jvm.MethodName) ({ cls := "SpillForgeModel$Row", name := "put", desc := "(LSpillForgeModel$Row;)V" } : Jvm.MethodName)) ∈ gw := gw_10 146 rfl rfl
theorem dr_cX13_copy_93 : decode cX13_copy 93 = .ok (.aload 4, 2) := by decide +kernel
theorem dr_cX13_copy_95 : decode cX13_copy 95 = .ok (.aload_n 3, 1) := by decide +kernel
theorem dr_cX13_copy_96 : decode cX13_copy 96 = .ok (.getfield 93, 3) := by decide +kernel
theorem wr_9_227 : (Jvm.Cond.fieldLink "SpillForgeModel$Code" (93 : Nat) "SpillForgeModel$Block" "first" "I") ∈ gw := gw_9 227 rfl rfl
theorem dr_cX13_copy_99 : decode cX13_copy 99 = .ok (.putfield 93, 3) := by decide +kernel
theorem dr_cX13_copy_102 : decode cX13_copy 102 = .ok (.aload 4, 2) := by decide +kernel
theorem dr_cX13_copy_104 : decode cX13_copy 104 = .ok (.aload_n 3, 1) := by decide +kernel
theorem dr_cX13_copy_105 : decode cX13_copy 105 = .ok (.getfield 96, 3) := by decide +kernel
theorem wr_9_231 : (Jvm.Cond.fieldLink "SpillForgeModel$Code" (96 : Nat) "SpillForgeModel$Block" "second" "I") ∈ gw := gw_9 231 rfl rfl
theorem dr_cX13_copy_108 : decode cX13_copy 108 = .ok (.putfield 96, 3) := by decide +kernel
theorem dr_cX13_copy_111 : decode cX13_copy 111 = .ok (.iinc 2 1, 3) := by decide +kernel
theorem dr_cX13_copy_114 : decode cX13_copy 114 = .ok (.goto (-108), 3) := by decide +kernel
theorem dr_cX13_copy_41 : decode cX13_copy 41 = .ok (.aload_n 0, 1) := by decide +kernel
theorem dr_cX13_copy_42 : decode cX13_copy 42 = .ok (.invokevirtual 81, 3) := by decide +kernel
theorem wr_10_143 : (Jvm.Cond.methodLink "SpillForgeModel$Code" (81 : Nat) ({ cls := "SpillForgeModel$Code", name := "row", desc := "()LSpillForgeModel$Row;" } : Jvm.MethodName)) ∈ gw := gw_10 143 rfl rfl
theorem dr_cX13_copy_45 : decode cX13_copy 45 = .ok (.astore 6, 2) := by decide +kernel
theorem dr_cX13_copy_47 : decode cX13_copy 47 = .ok (.aload 6, 2) := by decide +kernel
theorem dr_cX13_copy_49 : decode cX13_copy 49 = .ok (.aload_n 3, 1) := by decide +kernel
theorem dr_cX13_copy_50 : decode cX13_copy 50 = .ok (.getfield 41, 3) := by decide +kernel
theorem dr_cX13_copy_53 : decode cX13_copy 53 = .ok (.iload 5, 2) := by decide +kernel
theorem dr_cX13_copy_55 : decode cX13_copy 55 = .ok (.invokevirtual 37, 3) := by decide +kernel
theorem dr_cX13_copy_58 : decode cX13_copy 58 = .ok (.checkcast 45, 3) := by decide +kernel
theorem dr_cX13_copy_61 : decode cX13_copy 61 = .ok (.invokevirtual 85, 3) := by decide +kernel
theorem dr_cX13_copy_64 : decode cX13_copy 64 = .ok (.aload 4, 2) := by decide +kernel
theorem dr_cX13_copy_66 : decode cX13_copy 66 = .ok (.getfield 41, 3) := by decide +kernel
theorem dr_cX13_copy_69 : decode cX13_copy 69 = .ok (.aload 6, 2) := by decide +kernel
theorem dr_cX13_copy_71 : decode cX13_copy 71 = .ok (.invokevirtual 33, 3) := by decide +kernel
theorem dr_cX13_copy_74 : decode cX13_copy 74 = .ok (.pop, 1) := by decide +kernel
theorem dr_cX13_copy_75 : decode cX13_copy 75 = .ok (.iinc 5 1, 3) := by decide +kernel
theorem dr_cX13_copy_78 : decode cX13_copy 78 = .ok (.goto (-49), 3) := by decide +kernel
/- tl_RCode_copy_29: P, F, gm, el, l5; out: F, P, gm, el -/
def tl_RCode_copy_29 (D : va_G) (I : FieldType → ClassId) (γ0 el0 : Nat → Nat → Nat) (f : Nat) (fo : Nat) (P : List Nat) (F : Nat → va_E) (q0 : Nat) (l2_1 : Int32) (q1 : Nat) (c1 : Nat) (c2 : Nat) (s1 : List Nat) (s2 : Nat → va_E) (s3 : Nat → Nat → Nat) (s4 : Nat → Nat → Nat) (s5 : Int32) (k : Nat) (e1 : Nat → va_E) (e2 : List Nat) (e3 : Nat → Nat → Nat) (e4 : Nat → Nat → Nat) : Prop := ∀ R : (List Nat) → (Nat → va_E) → (Nat → Nat → Nat) → (Nat → Nat → Nat) → (Int32) → Nat → (Nat → va_E) → (List Nat) → (Nat → Nat → Nat) → (Nat → Nat → Nat) → Prop,
  (∀ (P_2 : List Nat) (F_2 : Nat → va_E) (gm_2 : Nat → Nat → Nat) (el_2 : Nat → Nat → Nat) (l5_2 : Int32) (x1 : Nat) (x2 : Int32), gB l5_2 0 1000000 → RS D I P_2 F_2 gm_2 el_2 → rSk f [1, 2, 3, 101, 102, 103, 202] ([1, 2, 3, 4, 5, 6, 7, 8, 9, 101, 102, 103, 202]) D I P F γ0 el0 P_2 F_2 gm_2 el_2 → gm_2 6 f = 0 → gm_2 19 f = γ0 6 fo → gm_2 18 f = 0 → gm_2 7 f = 0 → (fI (F_2 q0) 3).toInt = l2_1.toInt + 1 → rKb gm_2 el_2 q0 (l2_1.toInt : Int).toNat → (gm_2 16 f ≤ rsum (fun i => γ0 2 (γ0 14 (el0 (γ0 14 q1) i))) (l2_1.toInt : Int).toNat + (l5_2.toInt : Int).toNat) → (l2_1.toInt : Int) < γ0 6 fo → c1 = el0 (γ0 14 q1) (l2_1.toInt : Int).toNat → (l5_2.toInt : Int) ≤ γ0 2 (γ0 14 c1) → fR (F_2 c1) 0 = x1 → x2.toInt = (gm_2 2 x1 : Int) → fI (F_2 x1) 2 = x2 → x2.toInt ≤ l5_2.toInt → R P_2 F_2 gm_2 el_2 l5_2 81 F_2 P_2 gm_2 el_2) →
  (∀ (P_2 : List Nat) (F_2 : Nat → va_E) (gm_2 : Nat → Nat → Nat) (el_2 : Nat → Nat → Nat) (l5_2 : Int32) (x1 : Nat) (x2 : Int32) (x3 : List Nat) (x4 : Nat → va_E) (x5 : Nat → Nat → Nat) (x6 : Nat → Nat → Nat) (x7 : Nat) (x8 : Nat) (x9 : Nat) (x10 : Nat) (x11 : Nat) (x12 : Int32) (x13 : Int32) (x14 : Int32) (x15 : Int32) (x16 : Int32) (x17 : Int32) (x18 : Int32) (x19 : Int32) (x20 : Nat → va_E) (x21 : Nat) (x22 : List Nat) (x23 : Nat → va_E) (x24 : Nat → Nat → Nat) (x25 : Nat → Nat → Nat) (x26 : Nat) (x27 : Nat) (x28 : Int32) (k : Nat) (e1 : Nat → va_E) (e2 : List Nat) (e3 : Nat → Nat → Nat) (e4 : Nat → Nat → Nat), gB l5_2 0 1000000 → RS D I P_2 F_2 gm_2 el_2 → rSk f [1, 2, 3, 101, 102, 103, 202] ([1, 2, 3, 4, 5, 6, 7, 8, 9, 101, 102, 103, 202]) D I P F γ0 el0 P_2 F_2 gm_2 el_2 → gm_2 6 f = 0 → gm_2 19 f = γ0 6 fo → gm_2 18 f = 0 → gm_2 7 f = 0 → (fI (F_2 q0) 3).toInt = l2_1.toInt + 1 → rKb gm_2 el_2 q0 (l2_1.toInt : Int).toNat → (gm_2 16 f ≤ rsum (fun i => γ0 2 (γ0 14 (el0 (γ0 14 q1) i))) (l2_1.toInt : Int).toNat + (l5_2.toInt : Int).toNat) → (l2_1.toInt : Int) < γ0 6 fo → c1 = el0 (γ0 14 q1) (l2_1.toInt : Int).toNat → (l5_2.toInt : Int) ≤ γ0 2 (γ0 14 c1) → fR (F_2 c1) 0 = x1 → x2.toInt = (gm_2 2 x1 : Int) → fI (F_2 x1) 2 = x2 → l5_2.toInt < x2.toInt → rRq D I P_2 F_2 gm_2 el_2 f q0 x3 x4 x5 x6 x7 x8 x9 → fR (x4 c1) 0 = x10 → x11 = x6 x10 l5_2.toInt.toNat → fI (x4 x10) 2 = x12 → tr_RArrayList_get l5_2 x12 → fI (x4 x11) 0 = x13 → fI (x4 x11) 1 = x14 → fI (x4 x11) 2 = x15 → fI (x4 x11) 3 = x16 → fI (x4 x11) 4 = x17 → fI (x4 x11) 5 = x18 → fI (x4 x11) 6 = x19 → rFr [x7] x3 x4 x20 → x20 x7 = .inr (20, [.int x13, .int x14, .int x15, .int x16, .int x17, .int x18, .int x19]) → fR (x20 c2) 0 = x21 → rIq D I x3 x20 x5 x6 f x21 (x5 2 x21) x7 x22 x23 x24 x25 x26 x27 → x28.toInt = l5_2.toInt + 1 → R x22 x23 x24 x25 x28 k e1 e2 e3 e4 → R P_2 F_2 gm_2 el_2 l5_2 k e1 e2 e3 e4) →
  R s1 s2 s3 s4 s5 k e1 e2 e3 e4
/- tl_RCode_copy_6: P, F, gm, el, l2; out: F, P, gm, el -/
def tl_RCode_copy_6 (D : va_G) (I : FieldType → ClassId) (γ0 el0 : Nat → Nat → Nat) (f : Nat) (fo : Nat) (P : List Nat) (F : Nat → va_E) (q0 : Nat) (q1 : Nat) (s1 : List Nat) (s2 : Nat → va_E) (s3 : Nat → Nat → Nat) (s4 : Nat → Nat → Nat) (s5 : Int32) (k : Nat) (e1 : Nat → va_E) (e2 : List Nat) (e3 : Nat → Nat → Nat) (e4 : Nat → Nat → Nat) : Prop := ∀ R : (List Nat) → (Nat → va_E) → (Nat → Nat → Nat) → (Nat → Nat → Nat) → (Int32) → Nat → (Nat → va_E) → (List Nat) → (Nat → Nat → Nat) → (Nat → Nat → Nat) → Prop,
  (∀ (P_1 : List Nat) (F_1 : Nat → va_E) (gm_1 : Nat → Nat → Nat) (el_1 : Nat → Nat → Nat) (l2_1 : Int32) (x1 : Int32), gB l2_1 0 1000000 → RS D I P_1 F_1 gm_1 el_1 → rSk f [1, 2, 3, 101, 102, 103, 202] ([1, 2, 3, 4, 5, 6, 7, 8, 9, 101, 102, 103, 202]) D I P F γ0 el0 P_1 F_1 gm_1 el_1 → gm_1 6 f = 0 → gm_1 19 f = γ0 6 fo → gm_1 18 f = 0 → gm_1 7 f = 0 → (fI (F_1 q0) 3).toInt = l2_1.toInt → rKb gm_1 el_1 q0 (l2_1.toInt : Int).toNat → (gm_1 16 f ≤ rsum (fun i => γ0 2 (γ0 14 (el0 (γ0 14 q1) i))) (l2_1.toInt : Int).toNat) → (l2_1.toInt : Int) ≤ γ0 6 fo → fI (F_1 q1) 3 = x1 → x1.toInt ≤ l2_1.toInt → R P_1 F_1 gm_1 el_1 l2_1 117 F_1 P_1 gm_1 el_1) →
  (∀ (P_1 : List Nat) (F_1 : Nat → va_E) (gm_1 : Nat → Nat → Nat) (el_1 : Nat → Nat → Nat) (l2_1 : Int32) (x1 : Int32) (x2 : Nat) (x3 : Nat) (x4 : Int32) (x5 : List Nat) (x6 : Nat → va_E) (x7 : Nat → Nat → Nat) (x8 : Nat → Nat → Nat) (x9 : Nat) (x10 : Nat) (x11 : Nat) (x12 : Nat → va_E) (x13 : List Nat) (x14 : Nat → Nat → Nat) (x15 : Nat → Nat → Nat) (x16 : Nat) (x17 : Nat) (x18 : Int32) (x19 : Int32) (x20 : Int32) (x21 : Int32) (x22 : Int32) (x23 : Int32) (x24 : Int32) (x25 : Nat → va_E) (x26 : Int32) (x27 : Nat → va_E) (x28 : Int32) (x29 : Nat → va_E) (x30 : Nat → Nat → Nat) (x31 : Int32) (k : Nat) (e1 : Nat → va_E) (e2 : List Nat) (e3 : Nat → Nat → Nat) (e4 : Nat → Nat → Nat), gB l2_1 0 1000000 → RS D I P_1 F_1 gm_1 el_1 → rSk f [1, 2, 3, 101, 102, 103, 202] ([1, 2, 3, 4, 5, 6, 7, 8, 9, 101, 102, 103, 202]) D I P F γ0 el0 P_1 F_1 gm_1 el_1 → gm_1 6 f = 0 → gm_1 19 f = γ0 6 fo → gm_1 18 f = 0 → gm_1 7 f = 0 → (fI (F_1 q0) 3).toInt = l2_1.toInt → rKb gm_1 el_1 q0 (l2_1.toInt : Int).toNat → (gm_1 16 f ≤ rsum (fun i => γ0 2 (γ0 14 (el0 (γ0 14 q1) i))) (l2_1.toInt : Int).toNat) → (l2_1.toInt : Int) ≤ γ0 6 fo → fI (F_1 q1) 3 = x1 → l2_1.toInt < x1.toInt → fR (F_1 q1) 0 = x2 → x3 = el_1 x2 l2_1.toInt.toNat → fI (F_1 x2) 2 = x4 → tr_RCode_get l2_1 x4 → rBq D I P_1 F_1 gm_1 el_1 f q0 x5 x6 x7 x8 x9 x10 x11 → tl_RCode_copy_29 D I γ0 el0 f fo P F q0 l2_1 q1 x3 x9 x5 x6 x7 x8 (0 : Int32) 81 x12 x13 x14 x15 → fR (x12 x9) 1 = x16 → fR (x12 x3) 1 = x17 → fI (x12 x17) 0 = x18 → fI (x12 x17) 1 = x19 → fI (x12 x17) 2 = x20 → fI (x12 x17) 3 = x21 → fI (x12 x17) 4 = x22 → fI (x12 x17) 5 = x23 → fI (x12 x17) 6 = x24 → rFr [x16] x13 x12 x25 → x25 x16 = .inr (20, [.int x18, .int x19, .int x20, .int x21, .int x22, .int x23, .int x24]) → fI (x25 x3) 2 = x26 → (∀ b, b ≠ x9 → x27 b = x25 b) → x27 x9 = cF (x25 x9) 2 (.int x26) → fI (x27 x3) 3 = x28 → (∀ b, b ≠ x9 → x29 b = x27 b) → x29 x9 = cF (x27 x9) 3 (.int x28) → fR (x29 x9) 1 = x16 → x30 = gSea x14 x9 x16 → x31.toInt = l2_1.toInt + 1 → R x13 x29 x30 x15 x31 k e1 e2 e3 e4 → R P_1 F_1 gm_1 el_1 l2_1 k e1 e2 e3 e4) →
  R s1 s2 s3 s4 s5 k e1 e2 e3 e4
/- tr_RCode_copy: P, F, gm, el -/
def tr_RCode_copy (D : va_G) (I : FieldType → ClassId) (γ0 el0 : Nat → Nat → Nat) (f : Nat) (fo : Nat) (P : List Nat) (F : Nat → va_E) (q0 : Nat) (q1 : Nat) (o1 : List Nat) (o2 : Nat → va_E) (o3 : Nat → Nat → Nat) (o4 : Nat → Nat → Nat) : Prop := ∀ R : (List Nat) → (Nat → va_E) → (Nat → Nat → Nat) → (Nat → Nat → Nat) → Prop,
  (∀ (x1 : Nat → Nat → Nat) (x2 : Nat → Nat → Nat) (x3 : Nat → va_E) (x4 : Nat → Nat → Nat) (x5 : Nat → Nat → Nat) (x6 : Nat → va_E) (x7 : List Nat) (x8 : Nat → Nat → Nat) (x9 : Nat → Nat → Nat) (x10 : Nat → Nat → Nat), x1 = γ0 → x2 = el0 → rGq D I P F x1 x2 f q0 (γ0 6 fo) x3 x4 x5 → tl_RCode_copy_6 D I γ0 el0 f fo P F q0 q1 P x3 x4 x5 (0 : Int32) 117 x6 x7 x8 x9 → x10 = gVal x8 6 f (γ0 6 fo) → R x7 x6 x10 x9) →
  R o1 o2 o3 o4
abbrev ky_195839_Code_copy : gKey := (cX13_copy, 7, "SpillForgeModel$Code", none, [], "copy", fun _ _ => True)
def pg_195839_Code_copy (D : va_G) (I : FieldType → ClassId) (γ0 el0 : Nat → Nat → Nat) (f : Nat) (fo : Nat) (B : Nat) (P195832 : List Nat) (F195833 : Nat → va_E) (q195834 : Nat) (q195835 : Nat) : Option Value → va_W → Nat → Nat → Prop := fun r w dc ds => ∃ (P210263 : List Nat) (F210264 : Nat → va_E) (γ el : Nat → Nat → Nat), r = none ∧ w = va_pl P210263 F210264 ∧ rSk f [1, 2, 3, 101, 102, 103, 202] ([1, 2, 3, 4, 5, 6, 7, 8, 9, 101, 102, 103, 202]) D I P195832 F195833 γ0 el0 P210263 F210264 γ el ∧ (18 * dc + rPh γ0 el0 f ≤ rPh γ el f ∧ ds + rPh γ0 el0 f ≤ rPh γ el f) ∧ rBd γ el f B ∧ γ 6 f = γ0 6 fo ∧ γ 7 f = 0 ∧ γ 16 f ≤ γ0 16 fo ∧ γ 18 f = 0 ∧ tr_RCode_copy D I γ0 el0 f fo P195832 F195833 q195834 q195835 P210263 F210264 γ el
set_option maxRecDepth 100000 in
set_option maxHeartbeats 1500000 in
theorem cg_195839_Code_copy (l : Launch) (hl0 : l.stackTraces = false) (D : va_G) (I : FieldType → ClassId) (γ0 el0 : Nat → Nat → Nat) (f : Nat) (fo : Nat) (B : Nat) (P195832 : List Nat) (F195833 : Nat → va_E) (q195834 : Nat) (q195835 : Nat) (hT0 : RS D I P195832 F195833 γ0 el0) (hzq195834 : rKd γ0 q195834 9) (hzq195835 : rKd γ0 q195835 9) (hf0 : γ0 1 q195834 = f) (hfo0 : γ0 1 q195835 = fo) (hne : fo ≠ f) (hB0 : rBd γ0 el0 f B) (hBk : B ≤ 100000) (x195836 : 0 < γ0 6 fo) (x195837 : γ0 7 fo = 0) (x195838 : γ0 16 fo ≤ B) : CtA (gV D I) l yX13_copy cX13_copy 7 none 8 170 (((387 * B + 6000) - rPh γ0 el0 f) / 18) ((387 * B + 6000) - rPh γ0 el0 f) [.ref q195834, .ref q195835] (va_pl P195832 F195833) (pg_195839_Code_copy D I γ0 el0 f fo B P195832 F195833 q195834 q195835) gNA := by
  refine CtA_of hl0 (by decide) (Nat.le_of_ble_eq_true rfl) ?_
  obtain ⟨gm_0, hγ0⟩ : ∃ z, z = γ0 := ⟨_, rfl⟩
  obtain ⟨el_0, hel0⟩ : ∃ z, z = el0 := ⟨_, rfl⟩
  have hT : RS D I P195832 F195833 gm_0 el_0 := by rw [hγ0, hel0]; exact hT0
  have hst : rSk f [1, 2, 3, 101, 102, 103, 202] ([1, 2, 3, 4, 5, 6, 7, 8, 9, 101, 102, 103, 202]) D I P195832 F195833 γ0 el0 P195832 F195833 gm_0 el_0 := by rw [hγ0, hel0]; exact rSk_rf hT0
  have hph : rPh γ0 el0 f ≤ rPh gm_0 el_0 f := by rw [hγ0, hel0]; exact Nat.le_refl _
  have hB : rBd gm_0 el_0 f B := by rw [hγ0, hel0]; exact hB0
  have htq195834 : rKd gm_0 q195834 9 := by rw [hγ0]; exact hzq195834
  have htq195835 : rKd gm_0 q195835 9 := by rw [hγ0]; exact hzq195835
  have hf1 : gm_0 1 q195834 = f := by rw [hγ0]; exact hf0
  have hfo1 : gm_0 1 q195835 = fo := by rw [hγ0]; exact hfo0
  have x195836n : 0 < gm_0 6 fo := by rw [hγ0]; exact x195836
  have x195837n : gm_0 7 fo = 0 := by rw [hγ0]; exact x195837
  have x195838n : gm_0 16 fo ≤ B := by rw [hγ0]; exact x195838
  have pk195840 : rPh gm_0 el_0 f ≤ 387 * B + 6000 := rm_pk (rM_ge hT htq195834 hf1).1 (rM_bd hB)
  refine G_widen (cs' := ((rPh gm_0 el_0 f - rPh γ0 el0 f) / 18)) (sl' := (rPh gm_0 el_0 f - rPh γ0 el0 f)) (Nat.zero_le _) (Nat.zero_le _) ?_
  have r195841 := rSk_g hst hne
  have r195842 : 0 < gm_0 6 (gm_0 1 q195835) := by rw [hfo1, r195841.1]; exact x195836
  have r195843 : gm_0 6 fo = γ0 6 fo := r195841.1
  have r195844 : gm_0 7 fo = 0 := by rw [r195841.2.1]; exact x195837
  refine G_aload_n 0 dr_cX13_copy_0 rfl ?_
  have rg195845 := rM_ge hT htq195834 hf1
  have rm195846 := rM_bd hB
  have bd195847 := rBd_c hT htq195834 hf1 hB
  refine Gt_beg (c := q195834) (f := f) (γ0 6 fo) hl0 dr_cX13_copy_1 ⟨wr_10_136, wr_1_15, wr_9_88, by decide, rfl, (Nat.le_of_ble_eq_true rfl), (Nat.le_of_ble_eq_true rfl)⟩ wr_9_86 wr_9_87 hT htq195834 hf1 (rm_zc pk195840) (rm_zs pk195840) (Nat.le_of_ble_eq_true rfl) (fun F195848 gm_F195848 el_F195848 hq195849 => ?_)
  have hq195850 := hq195849
  obtain ⟨hk195851, h6195852, h7195853, h16195854, h18195855, h19195856, h23195857, h2195858, hel195859, hmd195860, hr195861, hM195862, hBB195863⟩ := hq195849
  have hk195864 := rSk_of hk195851
  have hT195865 := hk195864.1
  have hs195866 := rSk_tr hst hk195864 (by decide) (by decide) (by decide)
  have ht195867 : rKd gm_F195848 q195834 9 := rSk_k hk195864 htq195834 (by decide) (by decide)
  have hf195868 : gm_F195848 1 q195834 = f := rSk_1 hk195864 htq195834 (by decide) hf1
  have ht195869 : rKd gm_F195848 q195835 9 := rSk_kf hk195864 htq195835 (by decide) (by rw [hfo1]; exact hne)
  have hf195870 : gm_F195848 1 q195835 = fo := rSk_1 hk195864 htq195835 (by decide) hfo1
  clear rg195845 rm195846 bd195847
  have r195871 := rSk_g hs195866 hne
  have r195872 : 0 < gm_F195848 6 (gm_F195848 1 q195835) := by rw [hf195870, r195871.1]; exact x195836
  have r195873 : gm_F195848 6 fo = γ0 6 fo := r195871.1
  have r195874 : gm_F195848 7 fo = 0 := by rw [r195871.2.1]; exact x195837
  have hB195875 : rBd gm_F195848 el_F195848 f B := hBB195863 B hB
  have hph195876 : rPh γ0 el0 f ≤ rPh gm_F195848 el_F195848 f := by rw [hr195861]; exact hph
  have pk195877 : rPh gm_F195848 el_F195848 f ≤ 387 * B + 6000 := rm_pk (rM_ge hT195865 ht195867 hf195868).1 (rM_bd hB195875)
  refine G_widen (cs' := ((rPh gm_F195848 el_F195848 f - rPh γ0 el0 f) / 18)) (sl' := (rPh gm_F195848 el_F195848 f - rPh γ0 el0 f)) (rm_ec hr195861) (rm_es hr195861) ?_
  refine G_iconst 0 dr_cX13_copy_4 (by decide +kernel) ?_
  refine G_istore_n (L' := [(2, .int 0), (0, .ref q195834), (1, .ref q195835)]) dr_cX13_copy_5 (Nat.le_of_ble_eq_true rfl) rfl ?_
  have hlp6_209152 : ∀ (n6_209152 : Nat) (P209139 : List Nat) (F209140 : Nat → va_E) (gm_F209140 el_F209140 : Nat → Nat → Nat) (g209138 : Int32), gB g209138 0 1000000 → RS D I P209139 F209140 gm_F209140 el_F209140 → rSk f [1, 2, 3, 101, 102, 103, 202] ([1, 2, 3, 4, 5, 6, 7, 8, 9, 101, 102, 103, 202]) D I P195832 F195833 γ0 el0 P209139 F209140 gm_F209140 el_F209140 → rPh γ0 el0 f ≤ rPh gm_F209140 el_F209140 f → rBd gm_F209140 el_F209140 f B → gm_F209140 6 f = 0 → gm_F209140 19 f = γ0 6 fo → gm_F209140 18 f = 0 → gm_F209140 7 f = 0 → (fI (F209140 q195834) 3).toInt = g209138.toInt → rKb gm_F209140 el_F209140 q195834 (g209138.toInt : Int).toNat → gm_F209140 16 f ≤ rsum (fun i => γ0 2 (γ0 14 (el0 (γ0 14 q195835) i))) (g209138.toInt : Int).toNat → (g209138.toInt : Int) ≤ γ0 6 fo → (∀ (k : Nat) (e1 : Nat → va_E) (e2 : List Nat) (e3 : Nat → Nat → Nat) (e4 : Nat → Nat → Nat), tl_RCode_copy_6 D I γ0 el0 f fo P195832 F195833 q195834 q195835 P209139 F209140 gm_F209140 el_F209140 g209138 k e1 e2 e3 e4 → tl_RCode_copy_6 D I γ0 el0 f fo P195832 F195833 q195834 q195835 P195832 F195848 gm_F195848 el_F195848 (0 : Int32) k e1 e2 e3 e4) → (γ0 6 fo - (g209138.toInt : Int).toNat) < n6_209152 → G (gV D I) l (gRm 8 170 (((387 * B + 6000) - rPh γ0 el0 f) / 18) ((387 * B + 6000) - rPh γ0 el0 f)) (gMA (gV D I) (pg_195839_Code_copy D I γ0 el0 f fo B P195832 F195833 q195834 q195835) gNA (((387 * B + 6000) - rPh γ0 el0 f) / 18) ((387 * B + 6000) - rPh γ0 el0 f)) ky_195839_Code_copy 6 [(2, .int g209138), (0, .ref q195834), (1, .ref q195835)] [] (va_pl P209139 F209140) ((rPh gm_F209140 el_F209140 f - rPh γ0 el0 f) / 18) (rPh gm_F209140 el_F209140 f - rPh γ0 el0 f) := by
    intro n6_209152
    induction n6_209152 with
    | zero => intro P209139 F209140 gm_F209140 el_F209140 g209138 bg209138 hT209141 hs209142 hph209143 hB209144 x209145 x209146 x209147 x209148 x209149 x209150 x209151 x209152 kt6_209153 hm6_209152; exact absurd hm6_209152 (Nat.not_lt_zero _)
    | succ n6_209152 ih6_209152 =>
      intro P209139 F209140 gm_F209140 el_F209140 g209138 bg209138 hT209141 hs209142 hph209143 hB209144 x209145 x209146 x209147 x209148 x209149 x209150 x209151 x209152 kt6_209153 hm6_209152
      clear h6195852 h7195853 h16195854 h18195855 h19195856 h23195857 h2195858 hmd195860 hr195861 hM195862 r195871 r195872 r195873 r195874 hph195876 pk195877
      have ht209154 : rKd gm_F209140 q195834 9 := rSk_k hs209142 hzq195834 (by decide) (by decide)
      have hf209155 : gm_F209140 1 q195834 = f := rSk_1 hs209142 hzq195834 (by decide) hf0
      have ht209156 : rKd gm_F209140 q195835 9 := rSk_k hs209142 hzq195835 (by decide) (by decide)
      have hf209157 : gm_F209140 1 q195835 = fo := rSk_1 hs209142 hzq195835 (by decide) hfo0
      have pk209158 : rPh gm_F209140 el_F209140 f ≤ 387 * B + 6000 := rm_pk (rM_ge hT209141 ht209154 hf209155).1 (rM_bd hB209144)
      have r209159 := rSk_g hs209142 hne
      have r209160 : 0 < gm_F209140 6 (gm_F209140 1 q195835) := by rw [hf209157, r209159.1]; exact x195836
      have r209161 : gm_F209140 6 fo = γ0 6 fo := r209159.1
      have r209162 : gm_F209140 7 fo = 0 := by rw [r209159.2.1]; exact x195837
      refine G_iload_n 0 dr_cX13_copy_6 rfl ?_
      refine G_aload_n 2 dr_cX13_copy_7 rfl ?_
      have hm209163 : q195835 ∈ P209139 := RS_m hT209141 ht209156 (by decide)
      obtain ⟨q209165, q209166, p209167, p209168, he209164, ht209184, ht209169, ht209170, ht209171, ht209172, r209173, r209174, r209175, r209176, r209177, r209178, r209179, r209180, r209181, r209182, r209183⟩ := show rk_9 gm_F209140 el_F209140 q195835 (F209140 q195835) from RS_o hT209141 ht209156
      have bp209167 : gB p209167 0 1000000 := ⟨by omega, by omega⟩
      have bp209168 : gB p209168 0 1000000 := ⟨by omega, by omega⟩
      have hf209185 : gm_F209140 1 q209165 = fo := (show gm_F209140 1 q209165 = gm_F209140 1 q195835 from ht209170).trans hf209157
      have hf209186 : gm_F209140 1 q209166 = fo := (show gm_F209140 1 q209166 = gm_F209140 1 q195835 from ht209172).trans hf209157
      have r209187 : gm_F209140 6 (gm_F209140 1 q195835) = gm_F209140 6 fo := by rw [hf209157]
      have r209188 : gm_F209140 16 (gm_F209140 1 q195835) = gm_F209140 16 fo := by rw [hf209157]
      have r209189 : p209168.toInt = gm_F209140 6 fo ∧ p209168.toInt ≤ 40 := by omega
      clear r209179
      have fq209190 : fI (F209140 q195835) 3 = p209168 := by rw [he209164]; rfl
      refine Gw_callV (As := []) (gV_ok D I) (cp_12780_Code_size l hl0 D I P209139 F209140 q195835 q209165 q209166 p209167 p209168 hm209163 he209164) dr_cX13_copy_8 ⟨wr_10_137, wr_1_15, wr_9_131, by decide, rfl, (Nat.le_of_ble_eq_true rfl), (Nat.le_of_ble_eq_true rfl)⟩ wr_9_129 wr_9_130 hm209163 he209164 rfl (rm_zc pk209158) (rm_zs pk209158) (Nat.le_of_ble_eq_true rfl) (fun r209194 w209195 dc209191 ds209192 hp209193 => ?_) (fun _ _ _ _ _ z => z.elim)
      obtain ⟨rfl, rfl, hdc, hds⟩ := hp209193
      change G _ _ _ _ _ _ _ (.int p209168 :: _) _ _ _
      refine G_widen (cs' := ((rPh gm_F209140 el_F209140 f - rPh γ0 el0 f) / 18)) (sl' := (rPh gm_F209140 el_F209140 f - rPh γ0 el0 f)) (rm_d0 hdc) (rm_d0 hds) ?_
      refine G_icmp_ge 117 dr_cX13_copy_11 (by decide +kernel) (fun hc209196 => ?_) (fun hc209196 => ?_)
      · have r209197 : p209168.toInt ≤ g209138.toInt := gC_le hc209196
        have hx209198 : tl_RCode_copy_6 D I γ0 el0 f fo P195832 F195833 q195834 q195835 P195832 F195848 gm_F195848 el_F195848 (0 : Int32) 117 F209140 P209139 gm_F209140 el_F209140 := kt6_209153 117 F209140 P209139 gm_F209140 el_F209140 (fun R c1 c2 => c1 P209139 F209140 gm_F209140 el_F209140 g209138 p209168 bg209138 hT209141 hs209142 x209145 x209146 x209147 x209148 x209149 x209150 x209151 x209152 fq209190 r209197)
        have r209199 := RS_valid hT0 hzq195835 hfo0 x195836
        have r209200 : (g209138.toInt : Int).toNat = γ0 6 fo := by omega
        have kb209201 := x209150
        rw [r209200] at kb209201
        have hv209202 := St_val (f := f) (n := γ0 6 fo) hT209141 ht209154 hf209155 (by omega) x195836 (by omega) (by omega) (by omega) kb209201
        obtain ⟨gm_hg209203, hg209203⟩ : ∃ z, z = gVal gm_F209140 6 f (γ0 6 fo) := ⟨_, rfl⟩
        rw [← hg209203] at hv209202
        have hk209204 := rSk_of hv209202.1
        have r209205 := hv209202.2.1
        have hT209206 := hk209204.1
        have hs209207 := rSk_tr hs209142 hk209204 (by decide) (by decide) (by decide)
        have ht209208 : rKd gm_hg209203 q195834 9 := rSk_k hk209204 ht209154 (by decide) (by decide)
        have hf209209 : gm_hg209203 1 q195834 = f := rSk_1 hk209204 ht209154 (by decide) hf209155
        have ht209210 : rKd gm_hg209203 q195835 9 := rSk_kf hk209204 ht209156 (by decide) (by rw [hf209157]; exact hne)
        have hf209211 : gm_hg209203 1 q195835 = fo := rSk_1 hk209204 ht209156 (by decide) hf209157
        have kb209212 : rKb gm_hg209203 el_F209140 q195834 (g209138.toInt : Int).toNat := rKb_t x209150 hk209204 (by decide) (rSk_s hk209204 ht209154 (by decide)).2.1 (fun _ _ => rfl)
        clear r209173 r209174 r209175 r209176 r209177 r209178 r209180 r209181 r209182 r209183 bp209167 bp209168
        have r209213 := rSk_g hs209207 hne
        have r209214 : 0 < gm_hg209203 6 (gm_hg209203 1 q195835) := by rw [hf209211, r209213.1]; exact x195836
        have r209215 : gm_hg209203 6 fo = γ0 6 fo := r209213.1
        have r209216 : gm_hg209203 7 fo = 0 := by rw [r209213.2.1]; exact x195837
        have hB209217 : rBd gm_hg209203 el_F209140 f B := hv209202.2.2.2 B hB209144
        have hph209218 : rPh γ0 el0 f ≤ rPh gm_hg209203 el_F209140 f := by rw [r209205]; exact hph209143
        have pk209219 : rPh gm_hg209203 el_F209140 f ≤ 387 * B + 6000 := rm_pk (rM_ge hT209206 ht209208 hf209209).1 (rM_bd hB209217)
        refine G_widen (cs' := ((rPh gm_hg209203 el_F209140 f - rPh γ0 el0 f) / 18)) (sl' := (rPh gm_hg209203 el_F209140 f - rPh γ0 el0 f)) (rm_ec r209205) (rm_es r209205) ?_
        have r209220 := gVal_n hg209203
        have r209221 := rsum_m (f := fun i => γ0 2 (γ0 14 (el0 (γ0 14 q195835) i))) _ (show (g209138.toInt : Int).toNat ≤ γ0 6 fo by omega)
        exact G_vretA dr_cX13_copy_117 rfl (show ((rPh gm_hg209203 el_F209140 f - rPh γ0 el0 f) / 18) ≤ (((387 * B + 6000) - rPh γ0 el0 f) / 18) by omega) (show (rPh gm_hg209203 el_F209140 f - rPh γ0 el0 f) ≤ ((387 * B + 6000) - rPh γ0 el0 f) by omega) ⟨P209139, F209140, gm_hg209203, el_F209140, rfl, rfl, hs209207, ⟨by omega, by omega⟩, hB209217, (by omega), (by omega), (by omega), (by omega), (fun R c1 => c1 gm_0 el_0 F195848 gm_F195848 el_F195848 F209140 P209139 gm_F209140 el_F209140 gm_hg209203 hγ0 hel0 hq195850 hx209198 hg209203)⟩
      · have r209222 : g209138.toInt < p209168.toInt := gC_nle hc209196
        have bg209138' : gB g209138 0 999999 := ⟨by omega, by omega⟩
        have bp209168' : gB p209168 1 1000000 := ⟨by omega, by omega⟩
        refine G_aload_n 2 dr_cX13_copy_14 rfl ?_
        refine G_iload_n 0 dr_cX13_copy_15 rfl ?_
        have hm209223 : q209165 ∈ P209139 := RS_m hT209141 ht209169 (by decide)
        obtain ⟨⟨p209225, p209226, q209227, he209224, r209228, r209229, r209230, r209232⟩, r209231⟩ := show rk_4 D I gm_F209140 el_F209140 F209140 q209165 from RS_o hT209141 ht209169
        have bp209225 := gB_any p209225
        have bp209226 : gB p209226 0 1000000 := ⟨by omega, by omega⟩
        obtain ⟨r209233, r209234, n209241, f209242, r209235, r209236, r209237, r209238, r209239, r209240⟩ := rLC_n r209230 (by omega)
        have hm209243 : q209227 ∈ P209139 := RS_m hT209141 r209233 (by decide)
        obtain ⟨q209244, hx209245⟩ : ∃ x, x = el_F209140 q209165 g209138.toInt.toNat := ⟨_, rfl⟩
        have fq209249 : fR (F209140 q195835) 0 = q209165 := by rw [he209164]; rfl
        have hx209246 : f209242 g209138.toNatClampNeg = some q209244 := (r209239 _ (show g209138.toInt.toNat < gm_F209140 2 q209165 by first | assumption | omega)).trans (by rw [hx209245])
        have ht209250 : rKd gm_F209140 q209244 2 := by rw [hx209245]; exact (r209180 _ (by omega)).resolve_right (fun z => absurd z.1 (by omega))
        have ht209251 : rFm gm_F209140 q209244 q209165 := by rw [hx209245]; exact (r209231 _ (show g209138.toInt.toNat < gm_F209140 2 q209165 by omega)).2.1
        have hm209252 : q209244 ∈ P209139 := RS_m hT209141 ht209250 (by decide)
        obtain ⟨q209254, q209255, p209256, p209257, he209253, ht209264, ht209258, ht209259, ht209260, ht209261, ht209262, bp209256, bp209257, r209263, r209265, r209266⟩ := show rk_2 gm_F209140 q209244 (F209140 q209244) from RS_o hT209141 ht209250
        have fq209267 : fI (F209140 q209165) 2 = p209226 := by rw [he209224]; rfl
        refine Gw_callV (As := [.int g209138]) (gV_ok D I) (cp_7901_Code_get l hl0 D I P209139 F209140 q195835 q209165 q209227 g209138 q209166 p209167 p209168 p209225 p209226 f209242 n209241 q209244 q209254 q209255 p209256 p209257 hm209163 hm209223 hm209243 hm209252 he209164 he209224 r209235 he209253 (gB_w bg209138' (by decide) (by decide)) (gB_w bp209226 (by decide) (by decide)) (by omega) (by omega) (by assumption) (by omega)) dr_cX13_copy_16 ⟨wr_10_138, wr_1_15, wr_10_141, by decide, rfl, (Nat.le_of_ble_eq_true rfl), (Nat.le_of_ble_eq_true rfl)⟩ wr_10_139 wr_10_140 hm209163 he209164 rfl (rm_zc pk209158) (rm_zs pk209158) (Nat.le_of_ble_eq_true rfl) (fun r209271 w209272 dc209268 ds209269 hp209270 => ?_) (fun _ _ _ _ _ z => z.elim)
        obtain ⟨rfl, rfl, hdc, hds, ht209273⟩ := hp209270
        change G _ _ _ _ _ _ _ (.ref q209244 :: _) _ _ _
        refine G_widen (cs' := ((rPh gm_F209140 el_F209140 f - rPh γ0 el0 f) / 18)) (sl' := (rPh gm_F209140 el_F209140 f - rPh γ0 el0 f)) (rm_d0 hdc) (rm_d0 hds) ?_
        have r209274 := RS_valid hT0 hzq195835 hfo0 x195836
        have r209275 := rSk_o (i := g209138.toInt.toNat) hT0 hs209142 hzq195835 (by rw [hfo0]; exact hne)
        have hx0209276 : q209244 = el0 (γ0 14 q195835) (g209138.toInt : Int).toNat := by rw [hx209245, ← ht209184.1, r209275.1, r209275.2.2.1]
        have hf209277 : gm_F209140 1 q209244 = fo := (show gm_F209140 1 q209244 = gm_F209140 1 q209165 from ht209251).trans ((show gm_F209140 1 q209165 = gm_F209140 1 q195835 from ht209170).trans hf209157)
        refine G_astore_n (L' := [(3, .ref q209244), (2, .int g209138), (0, .ref q195834), (1, .ref q195835)]) dr_cX13_copy_19 (Nat.le_of_ble_eq_true rfl) rfl ?_
        refine G_aload_n 2 dr_cX13_copy_20 rfl ?_
        have rg209278 := rM_ge hT209141 ht209154 hf209155
        have rm209279 := rM_bd hB209144
        have bd209280 := rBd_c hT209141 ht209154 hf209155 hB209144
        refine Gt_block (c := q195834) (f := f) hl0 dr_cX13_copy_21 ⟨wr_10_142, wr_1_15, wr_9_156, by decide, rfl, (Nat.le_of_ble_eq_true rfl), (Nat.le_of_ble_eq_true rfl)⟩ wr_9_154 wr_9_155 hT209141 ht209154 hf209155 (by omega) (Nat.le_trans bd209280.2.1 (by decide)) (rm_cs hph209143 rg209278.1 rm209279 (by decide)) (rm_sl hph209143 rg209278.1 rm209279 rm_s25) (Nat.le_of_ble_eq_true rfl) (fun P209281 F209282 gm_F209282 el_F209282 q209283 dc209284 ds209285 hq209286 => ?_)
        have hq209287 := hq209286
        obtain ⟨hk209288, b0209289, b1209290, ⟨jb209291, j1209292, j2209293, j3209294, j4209295, j5209296, j6209297⟩, hz209298, h16209299, h18209300, hnu209301, hot209302, h45209303, ⟨hr1209304, hr2209305⟩, hM209306, hBB209307⟩ := hq209286
        have hk209308 := rSk_of hk209288
        have hT209309 := hk209308.1
        have hs209310 := rSk_tr hs209142 hk209308 (by decide) (by decide) (by decide)
        have ht209311 : rKd gm_F209282 q195834 9 := rSk_k hk209308 ht209154 (by decide) (by decide)
        have hf209312 : gm_F209282 1 q195834 = f := rSk_1 hk209308 ht209154 (by decide) hf209155
        have ht209313 : rKd gm_F209282 q195835 9 := rSk_kf hk209308 ht209156 (by decide) (by rw [hf209157]; exact hne)
        have hf209314 : gm_F209282 1 q195835 = fo := rSk_1 hk209308 ht209156 (by decide) hf209157
        have ht209315 : rKd gm_F209282 q209244 2 := rSk_kf hk209308 ht209250 (by decide) (by rw [hf209277]; exact hne)
        have hf209316 : gm_F209282 1 q209244 = fo := rSk_1 hk209308 ht209250 (by decide) hf209277
        have kb209317 : rKb gm_F209282 el_F209282 q195834 (g209138.toInt : Int).toNat := rKb_t x209150 hk209308 (by decide) (rSk_s hk209308 ht209154 (by decide)).2.1 (fun i hi => j6209297 i (by omega))
        clear r209173 r209174 r209175 r209176 r209177 r209178 r209180 r209181 r209182 r209183 bp209167 bp209168 bp209256 bp209257 r209265 r209266 rg209278 rm209279 bd209280
        clear r209263
        have r209318 := rSk_g hs209310 hne
        have r209319 : 0 < gm_F209282 6 (gm_F209282 1 q195835) := by rw [hf209314, r209318.1]; exact x195836
        have r209320 : gm_F209282 6 fo = γ0 6 fo := r209318.1
        have r209321 : gm_F209282 7 fo = 0 := by rw [r209318.2.1]; exact x195837
        have r209323 := RS_valid hT0 hzq195835 hfo0 x195836
        have r209322 := (rSk_o (i := g209138.toInt.toNat) hT0 hs209310 hzq195835 (by rw [hfo0]; exact hne)).2.2.2 (by omega)
        rw [← hx0209276] at r209322
        have xs209324 : gm_F209282 2 (gm_F209282 14 q209244) = γ0 2 (γ0 14 q209244) := by rw [r209322.1]; exact r209322.2.1
        have hB209325 : rBd gm_F209282 el_F209282 f B := hBB209307 B (by omega) hB209144
        have r209326 := (rSk_s hk209308 ht209154 (by decide)).2.1
        obtain ⟨nu209327, nu209328, nu209329, nu209330⟩ := hnu209301
        have ht209331 : rKd gm_F209282 q209283 202 := b0209289
        have r209332 : (g209138.toInt : Int).toNat = jb209291 := by omega
        have r209333 : (g209138.toInt : Int).toNat < gm_F209282 2 (gm_F209282 14 q195834) := by rw [r209326, r209332]; exact j3209294
        have r209334 : el_F209282 (gm_F209282 14 q195834) (g209138.toInt : Int).toNat = q209283 := by rw [r209326, r209332]; exact j4209295
        have hph209335 : rPh γ0 el0 f ≤ rPh gm_F209282 el_F209282 f := rm_ph hph209143 hr2209305
        have pk209336 : rPh gm_F209282 el_F209282 f ≤ 387 * B + 6000 := rm_pk (rM_ge hT209309 ht209311 hf209312).1 (rM_bd hB209325)
        refine G_widen (cs' := ((rPh gm_F209282 el_F209282 f - rPh γ0 el0 f) / 18)) (sl' := (rPh gm_F209282 el_F209282 f - rPh γ0 el0 f)) (rm_wc hph209143 hr1209304) (rm_ws hph209143 hr2209305) ?_
        refine G_astore (L' := [(4, .ref q209283), (3, .ref q209244), (2, .int g209138), (0, .ref q195834), (1, .ref q195835)]) dr_cX13_copy_24 (Nat.le_of_ble_eq_true rfl) rfl ?_
        refine G_iconst 0 dr_cX13_copy_26 (by decide +kernel) ?_
        refine G_istore (L' := [(5, .int 0), (4, .ref q209283), (3, .ref q209244), (2, .int g209138), (0, .ref q195834), (1, .ref q195835)]) dr_cX13_copy_27 (Nat.le_of_ble_eq_true rfl) rfl ?_
        have hlp29_209803 : ∀ (n29_209803 : Nat) (P209782 : List Nat) (F209783 : Nat → va_E) (gm_F209783 el_F209783 : Nat → Nat → Nat) (g209781 : Int32), gB g209781 0 1000000 → RS D I P209782 F209783 gm_F209783 el_F209783 → rSk f [1, 2, 3, 101, 102, 103, 202] ([1, 2, 3, 4, 5, 6, 7, 8, 9, 101, 102, 103, 202]) D I P195832 F195833 γ0 el0 P209782 F209783 gm_F209783 el_F209783 → rPh γ0 el0 f ≤ rPh gm_F209783 el_F209783 f → rBd gm_F209783 el_F209783 f B → rKd gm_F209783 q209283 202 → gm_F209783 1 q209283 = f → (g209138.toInt : Int).toNat < gm_F209783 2 (gm_F209783 14 q195834) → el_F209783 (gm_F209783 14 q195834) (g209138.toInt : Int).toNat = q209283 → rKd gm_F209783 q209244 2 → gm_F209783 1 q209244 = fo → gm_F209783 6 f = 0 → gm_F209783 19 f = γ0 6 fo → gm_F209783 18 f = 0 → gm_F209783 7 f = 0 → (fI (F209783 q195834) 3).toInt = g209138.toInt + 1 → rKb gm_F209783 el_F209783 q195834 (g209138.toInt : Int).toNat → gm_F209783 16 f ≤ rsum (fun i => γ0 2 (γ0 14 (el0 (γ0 14 q195835) i))) (g209138.toInt : Int).toNat + (g209781.toInt : Int).toNat → (g209138.toInt : Int) < γ0 6 fo → q209244 = el0 (γ0 14 q195835) (g209138.toInt : Int).toNat → (g209781.toInt : Int) ≤ γ0 2 (γ0 14 q209244) → (∀ (k : Nat) (e1 : Nat → va_E) (e2 : List Nat) (e3 : Nat → Nat → Nat) (e4 : Nat → Nat → Nat), tl_RCode_copy_29 D I γ0 el0 f fo P195832 F195833 q195834 g209138 q195835 q209244 q209283 P209782 F209783 gm_F209783 el_F209783 g209781 k e1 e2 e3 e4 → tl_RCode_copy_29 D I γ0 el0 f fo P195832 F195833 q195834 g209138 q195835 q209244 q209283 P209281 F209282 gm_F209282 el_F209282 (0 : Int32) k e1 e2 e3 e4) → (γ0 2 (γ0 14 q209244) - (g209781.toInt : Int).toNat) < n29_209803 → G (gV D I) l (gRm 8 170 (((387 * B + 6000) - rPh γ0 el0 f) / 18) ((387 * B + 6000) - rPh γ0 el0 f)) (gMA (gV D I) (pg_195839_Code_copy D I γ0 el0 f fo B P195832 F195833 q195834 q195835) gNA (((387 * B + 6000) - rPh γ0 el0 f) / 18) ((387 * B + 6000) - rPh γ0 el0 f)) ky_195839_Code_copy 29 [(5, .int g209781), (4, .ref q209283), (3, .ref q209244), (2, .int g209138), (0, .ref q195834), (1, .ref q195835)] [] (va_pl P209782 F209783) ((rPh gm_F209783 el_F209783 f - rPh γ0 el0 f) / 18) (rPh gm_F209783 el_F209783 f - rPh γ0 el0 f) := by
          intro n29_209803
          induction n29_209803 with
          | zero => intro P209782 F209783 gm_F209783 el_F209783 g209781 bg209781 hT209784 hs209785 hph209786 hB209787 ht209788 hf209789 r209790 r209791 ht209792 hf209793 x209794 x209795 x209796 x209797 x209798 x209799 x209800 x209801 x209802 x209803 kt29_209804 hm29_209803; exact absurd hm29_209803 (Nat.not_lt_zero _)
          | succ n29_209803 ih29_209803 =>
            intro P209782 F209783 gm_F209783 el_F209783 g209781 bg209781 hT209784 hs209785 hph209786 hB209787 ht209788 hf209789 r209790 r209791 ht209792 hf209793 x209794 x209795 x209796 x209797 x209798 x209799 x209800 x209801 x209802 x209803 kt29_209804 hm29_209803
            clear r209187 r209188 r209189 r209228 r209229 r209230 r209232 r209231 r209233 r209234 r209235 r209236 r209237 r209238 r209239 r209240 r209274 r209275 j1209292 j2209293 j3209294 j5209296 h16209299 h18209300 hr1209304 hr2209305 hM209306 r209318 r209319 r209320 r209321 r209323 r209322 r209326 nu209327 nu209328 nu209329 nu209330 r209332 r209333 r209334 hph209335 pk209336
            have ht209805 : rKd gm_F209783 q195834 9 := rSk_k hs209785 hzq195834 (by decide) (by decide)
            have hf209806 : gm_F209783 1 q195834 = f := rSk_1 hs209785 hzq195834 (by decide) hf0
            have ht209807 : rKd gm_F209783 q195835 9 := rSk_k hs209785 hzq195835 (by decide) (by decide)
            have hf209808 : gm_F209783 1 q195835 = fo := rSk_1 hs209785 hzq195835 (by decide) hfo0
            have pk209809 : rPh gm_F209783 el_F209783 f ≤ 387 * B + 6000 := rm_pk (rM_ge hT209784 ht209805 hf209806).1 (rM_bd hB209787)
            have r209810 := rSk_g hs209785 hne
            have r209811 : 0 < gm_F209783 6 (gm_F209783 1 q195835) := by rw [hf209808, r209810.1]; exact x195836
            have r209812 : gm_F209783 6 fo = γ0 6 fo := r209810.1
            have r209813 : gm_F209783 7 fo = 0 := by rw [r209810.2.1]; exact x195837
            have r209815 := RS_valid hT0 hzq195835 hfo0 x195836
            have r209814 := (rSk_o (i := g209138.toInt.toNat) hT0 hs209785 hzq195835 (by rw [hfo0]; exact hne)).2.2.2 (by omega)
            rw [← x209802] at r209814
            have xs209816 : gm_F209783 2 (gm_F209783 14 q209244) = γ0 2 (γ0 14 q209244) := by rw [r209814.1]; exact r209814.2.1
            refine G_iload 0 dr_cX13_copy_29 rfl ?_
            refine G_aload_n 2 dr_cX13_copy_31 rfl ?_
            have hm209817 : q209244 ∈ P209782 := RS_m hT209784 ht209792 (by decide)
            obtain ⟨q209819, q209820, p209821, p209822, he209818, ht209829, ht209823, ht209824, ht209825, ht209826, ht209827, bp209821, bp209822, r209828, r209830, r209831⟩ := show rk_2 gm_F209783 q209244 (F209783 q209244) from RS_o hT209784 ht209792
            have hf209832 : gm_F209783 1 q209819 = fo := (show gm_F209783 1 q209819 = gm_F209783 1 q209244 from ht209824).trans hf209793
            have hf209833 : gm_F209783 1 q209820 = fo := (show gm_F209783 1 q209820 = gm_F209783 1 q209244 from ht209826).trans hf209793
            have r209834 : gm_F209783 6 (gm_F209783 1 q209244) = gm_F209783 6 fo := by rw [hf209793]
            have r209835 : gm_F209783 7 (gm_F209783 1 q209244) = gm_F209783 7 fo := by rw [hf209793]
            have r209836 : gm_F209783 19 (gm_F209783 1 q209244) = gm_F209783 19 fo := by rw [hf209793]
            have r209837 := r209828.resolve_left (by omega)
            clear r209828
            have r209838 : gm_F209783 2 (gm_F209783 14 q209244) = gm_F209783 2 q209819 := by rw [ht209829.1]
            have fq209839 : fR (F209783 q209244) 0 = q209819 := by rw [he209818]; rfl
            refine Gp_get 0 hm209817 he209818 dr_cX13_copy_32 (gk_X12 D I) (Nat.le_of_ble_eq_true rfl) wr_9_219 rfl ?_
            have hm209840 : q209819 ∈ P209782 := RS_m hT209784 ht209823 (by decide)
            obtain ⟨⟨p209842, p209843, q209844, he209841, r209845, r209846, r209847, r209849⟩, r209848⟩ := show rk_3 D I gm_F209783 el_F209783 F209783 q209819 from RS_o hT209784 ht209823
            have bp209842 := gB_any p209842
            have bp209843 : gB p209843 0 1000000 := ⟨by omega, by omega⟩
            have fq209850 : p209843.toInt = (gm_F209783 2 q209819 : Int) := by omega
            have fq209851 : fI (F209783 q209819) 2 = p209843 := by rw [he209841]; rfl
            refine Gw_callV (As := []) (gV_ok D I) (cp_7_ArrayList_size l hl0 D I P209782 F209783 q209819 p209842 q209844 p209843 hm209840 he209841 (gB_w bp209843 (by decide) (by decide))) dr_cX13_copy_35 ⟨wr_9_157, wr_1_18, wr_9_160, by decide, rfl, (Nat.le_of_ble_eq_true rfl), (Nat.le_of_ble_eq_true rfl)⟩ wr_9_158 wr_9_159 hm209840 he209841 rfl (rm_zc pk209809) (rm_zs pk209809) (Nat.le_of_ble_eq_true rfl) (fun r209855 w209856 dc209852 ds209853 hp209854 => ?_) (fun _ _ _ _ _ z => z.elim)
            obtain ⟨rfl, rfl, hdc, hds⟩ := hp209854
            change G _ _ _ _ _ _ _ (.int p209843 :: _) _ _ _
            refine G_widen (cs' := ((rPh gm_F209783 el_F209783 f - rPh γ0 el0 f) / 18)) (sl' := (rPh gm_F209783 el_F209783 f - rPh γ0 el0 f)) (rm_d0 hdc) (rm_d0 hds) ?_
            refine G_icmp_ge 81 dr_cX13_copy_38 (by decide +kernel) (fun hc209857 => ?_) (fun hc209857 => ?_)
            · have r209858 : p209843.toInt ≤ g209781.toInt := gC_le hc209857
              have hx209859 : tl_RCode_copy_29 D I γ0 el0 f fo P195832 F195833 q195834 g209138 q195835 q209244 q209283 P209281 F209282 gm_F209282 el_F209282 (0 : Int32) 81 F209783 P209782 gm_F209783 el_F209783 := kt29_209804 81 F209783 P209782 gm_F209783 el_F209783 (fun R c1 c2 => c1 P209782 F209783 gm_F209783 el_F209783 g209781 q209819 p209843 bg209781 hT209784 hs209785 x209794 x209795 x209796 x209797 x209798 x209799 x209800 x209801 x209802 x209803 fq209839 fq209850 fq209851 r209858)
              refine G_aload 1 dr_cX13_copy_81 rfl ?_
              have hm209860 : q209283 ∈ P209782 := RS_m hT209784 ht209788 (by decide)
              obtain ⟨q209862, q209863, p209864, p209865, he209861, ht209871, ht209866, ht209867, ht209868, ht209869, ht209870, bp209864, bp209865⟩ := show rk_202 gm_F209783 q209283 (F209783 q209283) from RS_o hT209784 ht209788
              have hf209872 : gm_F209783 1 q209862 = f := (show gm_F209783 1 q209862 = gm_F209783 1 q209283 from ht209867).trans hf209789
              have hf209873 : gm_F209783 1 q209863 = f := (show gm_F209783 1 q209863 = gm_F209783 1 q209283 from ht209869).trans hf209789
              have r209874 : gm_F209783 6 (gm_F209783 1 q209283) = gm_F209783 6 f := by rw [hf209789]
              have r209875 : gm_F209783 7 (gm_F209783 1 q209283) = gm_F209783 7 f := by rw [hf209789]
              have r209876 : gm_F209783 19 (gm_F209783 1 q209283) = gm_F209783 19 f := by rw [hf209789]
              have r209877 : gm_F209783 2 (gm_F209783 14 q209283) = gm_F209783 2 q209862 := by rw [ht209871.1]
              have fq209878 : fR (F209783 q209283) 1 = q209863 := by rw [he209861]; rfl
              refine Gp_get 1 hm209860 he209861 dr_cX13_copy_83 (gk_X12 D I) (Nat.le_of_ble_eq_true rfl) wr_9_224 rfl ?_
              refine G_aload_n 2 dr_cX13_copy_86 rfl ?_
              have fq209879 : fR (F209783 q209244) 1 = q209820 := by rw [he209818]; rfl
              refine Gp_get 1 hm209817 he209818 dr_cX13_copy_87 (gk_X12 D I) (Nat.le_of_ble_eq_true rfl) wr_9_224 rfl ?_
              have hm209880 : q209863 ∈ P209782 := RS_m hT209784 ht209868 (by decide)
              obtain ⟨p209882, p209883, p209884, p209885, p209886, p209887, p209888, he209881, bp209882, bp209883, bp209886, bp209887, bp209888, r209889, r209890, r209891⟩ := show rkR (F209783 q209863) from RS_o hT209784 ht209868
              have bp209884 := gB_any p209884
              have bp209885 := gB_any p209885
              have r209892 : gm_F209783 7 (gm_F209783 1 q209863) = gm_F209783 7 f := by rw [hf209873]
              have hm209893 : q209820 ∈ P209782 := RS_m hT209784 ht209825 (by decide)
              obtain ⟨p209895, p209896, p209897, p209898, p209899, p209900, p209901, he209894, bp209895, bp209896, bp209899, bp209900, bp209901, r209902, r209903, r209904, r209905, r209906⟩ := show rk_1 gm_F209783 q209820 (F209783 q209820) from RS_o hT209784 ht209825
              have bp209897 := gB_any p209897
              have bp209898 := gB_any p209898
              have r209907 : gm_F209783 7 (gm_F209783 1 q209820) = gm_F209783 7 fo := by rw [hf209833]
              have fq209908 : fI (F209783 q209820) 0 = p209895 := by rw [he209894]; rfl
              have fq209909 : fI (F209783 q209820) 1 = p209896 := by rw [he209894]; rfl
              have fq209910 : fI (F209783 q209820) 2 = p209897 := by rw [he209894]; rfl
              have fq209911 : fI (F209783 q209820) 3 = p209898 := by rw [he209894]; rfl
              have fq209912 : fI (F209783 q209820) 4 = p209899 := by rw [he209894]; rfl
              have fq209913 : fI (F209783 q209820) 5 = p209900 := by rw [he209894]; rfl
              have fq209914 : fI (F209783 q209820) 6 = p209901 := by rw [he209894]; rfl
              refine Gw_callV (As := [.ref q209820]) (gV_ok D I) (cp_1728_Row_put l hl0 D I P209782 F209783 q209863 q209820 p209882 p209883 p209884 p209885 p209886 p209887 p209888 p209895 p209896 p209897 p209898 p209899 p209900 p209901 hm209880 hm209893 he209881 he209894 (rn_ty ht209868 ht209825 (by decide)) bp209882 bp209883 bp209886 bp209887 bp209888 bp209895 bp209896 bp209899 bp209900 bp209901) dr_cX13_copy_90 ⟨wr_10_144, wr_1_39, wr_10_147, by decide, rfl, (Nat.le_of_ble_eq_true rfl), (Nat.le_of_ble_eq_true rfl)⟩ wr_10_145 wr_10_146 hm209880 he209881 rfl (rm_zc pk209809) (rm_zs pk209809) (Nat.le_of_ble_eq_true rfl) (fun r209918 w209919 dc209915 ds209916 hp209917 => ?_) (fun _ _ _ _ _ z => z.elim)
              obtain ⟨F209920, rfl, rfl, hfr209922, he209923, he209924, hdc, hds⟩ := hp209917
              have he209925 : F209920 q209244 = .inr (17, [.ref q209819, .ref q209820, .int p209821, .int p209822]) := (hfr209922 q209244 hm209817 (nm_c (rn_oo he209818 he209881 (by decide)) nm_n)).trans he209818
              have he209926 : F209920 q209819 = .inr (4, [.int p209842, .ref q209844, .int p209843]) := (hfr209922 q209819 hm209840 (nm_c (rn_oo he209841 he209881 (by decide)) nm_n)).trans he209841
              have he209927 : F209920 q209283 = .inr (17, [.ref q209862, .ref q209863, .int p209864, .int p209865]) := (hfr209922 q209283 hm209860 (nm_c (rn_oo he209861 he209881 (by decide)) nm_n)).trans he209861
              have hfr209928 : rFr [q209863] P209782 F209783 F209920 := rFr_call (rSub_rf (P := P209782)) (rFr_rf (W := []) (P := P209782) (F := F209783)) hfr209922 (fun b hb hn => ⟨nm_n, (nm_c (fun e => hn (e ▸ List.mem_cons_self)) nm_n)⟩)
              change G _ _ _ _ _ _ _ _ _ _ _
              refine G_widen (cs' := ((rPh gm_F209783 el_F209783 f - rPh γ0 el0 f) / 18)) (sl' := (rPh gm_F209783 el_F209783 f - rPh γ0 el0 f)) (rm_d0 hdc) (rm_d0 hds) ?_
              have hT209929 : RS D I P209782 F209920 gm_F209783 el_F209783 := RS_fr hT209784 hfr209928 ht209868 (by decide) ⟨p209895, p209896, p209897, p209898, p209899, p209900, p209901, he209923, bp209895, bp209896, bp209899, bp209900, bp209901, r209902, r209903, r209904⟩
              have hs209930 := rSk_fr hs209785 hT209929 hfr209928 ht209868 (by decide) (by decide)
              have md209931 : (fI (F209920 q195834) 3).toInt = (fI (F209783 q195834) 3).toInt := by rw [hfr209928 q195834 (RS_m hT209784 ht209805 (by decide)) (nm_c (rn_ty ht209805 ht209868 (by decide)) nm_n)]
              refine G_aload 1 dr_cX13_copy_93 rfl ?_
              refine G_aload_n 2 dr_cX13_copy_95 rfl ?_
              have fq209932 : fI (F209920 q209244) 2 = p209821 := by rw [he209925]; rfl
              refine Gp_get 2 hm209817 he209925 dr_cX13_copy_96 (gk_X12 D I) (Nat.le_of_ble_eq_true rfl) wr_9_227 rfl ?_
              refine Gp_put 2 hm209860 he209927 dr_cX13_copy_99 (gk_X12 D I) (Nat.le_of_ble_eq_true rfl) wr_9_227 rfl rfl rfl (Nat.le_of_ble_eq_true rfl) (fun F209933 e209934 n209935 => ?_)
              have he209936 : F209933 q209244 = .inr (17, [.ref q209819, .ref q209820, .int p209821, .int p209822]) := (n209935 q209244 (rn_ty ht209792 ht209788 (by decide))).trans he209925
              have he209937 : F209933 q209819 = .inr (4, [.int p209842, .ref q209844, .int p209843]) := (n209935 q209819 (rn_oo he209926 he209927 (by decide))).trans he209926
              have he209938 : F209933 q209863 = .inr (20, [.int p209895, .int p209896, .int p209897, .int p209898, .int p209899, .int p209900, .int p209901]) := (n209935 q209863 (rn_oo he209923 he209927 (by decide))).trans he209923
              have he209939 : F209933 q209820 = .inr (20, [.int p209895, .int p209896, .int p209897, .int p209898, .int p209899, .int p209900, .int p209901]) := (n209935 q209820 (rn_oo he209924 he209927 (by decide))).trans he209924
              have he209940 : F209933 q209283 = .inr (17, [.ref q209862, .ref q209863, .int p209821, .int p209865]) := e209934
              have fq209941 : F209933 q209283 = cF (F209920 q209283) 2 (.int p209821) := by rw [he209940, he209927]; rfl
              refine G_aload 1 dr_cX13_copy_102 rfl ?_
              refine G_aload_n 2 dr_cX13_copy_104 rfl ?_
              have fq209942 : fI (F209933 q209244) 3 = p209822 := by rw [he209936]; rfl
              refine Gp_get 3 hm209817 he209936 dr_cX13_copy_105 (gk_X12 D I) (Nat.le_of_ble_eq_true rfl) wr_9_231 rfl ?_
              refine Gp_put 3 hm209860 he209940 dr_cX13_copy_108 (gk_X12 D I) (Nat.le_of_ble_eq_true rfl) wr_9_231 rfl rfl rfl (Nat.le_of_ble_eq_true rfl) (fun F209943 e209944 n209945 => ?_)
              have he209946 : F209943 q209244 = .inr (17, [.ref q209819, .ref q209820, .int p209821, .int p209822]) := (n209945 q209244 (rn_ty ht209792 ht209788 (by decide))).trans he209936
              have he209947 : F209943 q209819 = .inr (4, [.int p209842, .ref q209844, .int p209843]) := (n209945 q209819 (rn_oo he209937 he209940 (by decide))).trans he209937
              have he209948 : F209943 q209863 = .inr (20, [.int p209895, .int p209896, .int p209897, .int p209898, .int p209899, .int p209900, .int p209901]) := (n209945 q209863 (rn_oo he209938 he209940 (by decide))).trans he209938
              have he209949 : F209943 q209820 = .inr (20, [.int p209895, .int p209896, .int p209897, .int p209898, .int p209899, .int p209900, .int p209901]) := (n209945 q209820 (rn_oo he209939 he209940 (by decide))).trans he209939
              have he209950 : F209943 q209283 = .inr (17, [.ref q209862, .ref q209863, .int p209821, .int p209822]) := e209944
              have n209951 : ∀ b, b ≠ q209283 → F209943 b = F209920 b := fun b hb => (n209945 b hb).trans (n209935 b hb)
              have fq209952 : F209943 q209283 = cF (F209933 q209283) 3 (.int p209822) := by rw [he209950, he209940]; rfl
              have hT209953 : RS D I P209782 F209943 gm_F209783 el_F209783 := RS_set hT209929 n209951 ht209788 (by decide) ⟨q209862, q209863, p209821, p209822, he209950, ht209871, ht209866, ht209867, ht209868, ht209869, ht209870, bp209821, bp209822⟩
              have hs209954 := rSk_put hs209930 hT209953 n209951 ht209788 (by decide) (by decide)
              have md209955 : (fI (F209943 q195834) 3).toInt = (fI (F209920 q195834) 3).toInt := by rw [n209951 q195834 (rn_ty ht209805 ht209788 (by decide))]
              have hx209956 : rk_1 gm_F209783 q209863 (F209943 q209863) := ⟨p209895, p209896, p209897, p209898, p209899, p209900, p209901, he209948, bp209895, bp209896, bp209899, bp209900, bp209901, r209902, r209903, r209904, (Or.inl (r209905.resolve_right (by omega))), (Or.inr (r209906.resolve_left (fun z => absurd (ht209827.2.symm.trans z) (by decide))))⟩
              have hv209957 := St_seal (f := f) hT209953 ht209788 hf209789 he209950 ht209805 hf209806 (by omega) (by omega) (by omega) hx209956
              have hv209957 := And.intro hv209957 (gSea_ph (γ := gm_F209783) (el := el_F209783) (f := f) (b := q209283) (n := q209863))
              obtain ⟨gm_hg209958, hg209958⟩ : ∃ z, z = gSea gm_F209783 q209283 q209863 := ⟨_, rfl⟩
              have fq209959 : fR (F209943 q209283) 1 = q209863 := by rw [he209950]; rfl
              rw [← hg209958] at hv209957
              have hk209960 := rSk_of hv209957.1
              have r209961 := hv209957.2.1
              have hT209962 := hk209960.1
              have hs209963 := rSk_tr hs209954 hk209960 (by decide) (by decide) (by decide)
              have ht209964 : rKd gm_hg209958 q195834 9 := rSk_k hk209960 ht209805 (by decide) (by decide)
              have hf209965 : gm_hg209958 1 q195834 = f := rSk_1 hk209960 ht209805 (by decide) hf209806
              have ht209966 : rKd gm_hg209958 q195835 9 := rSk_kf hk209960 ht209807 (by decide) (by rw [hf209808]; exact hne)
              have hf209967 : gm_hg209958 1 q195835 = fo := rSk_1 hk209960 ht209807 (by decide) hf209808
              have ht209968 : rKd gm_hg209958 q209244 2 := rSk_kf hk209960 ht209792 (by decide) (by rw [hf209793]; exact hne)
              have hf209969 : gm_hg209958 1 q209244 = fo := rSk_1 hk209960 ht209792 (by decide) hf209793
              have ht209970 : rKd gm_hg209958 q209819 3 := rSk_kf hk209960 ht209823 (by decide) (by rw [hf209832]; exact hne)
              have hf209971 : gm_hg209958 1 q209819 = fo := rSk_1 hk209960 ht209823 (by decide) hf209832
              have ht209972 : rKd gm_hg209958 q209862 3 := rSk_k hk209960 ht209866 (by decide) (by decide)
              have hf209973 : gm_hg209958 1 q209862 = f := rSk_1 hk209960 ht209866 (by decide) hf209872
              have kb209974 : rKb gm_hg209958 el_F209783 q195834 (g209138.toInt : Int).toNat := rKb_t x209799 hk209960 (by decide) (rSk_s hk209960 ht209805 (by decide)).2.1 (fun _ _ => rfl)
              clear bp209821 bp209822 r209830 r209831 bp209864 bp209865 bp209882 bp209883 bp209886 bp209887 bp209888 bp209884 bp209885 bp209895 bp209896 bp209899 bp209900 bp209901 bp209897 bp209898
              clear r209889 r209890 r209891 r209902 r209903 r209904 r209905 r209906
              have r209975 := rSk_g hs209963 hne
              have r209976 : 0 < gm_hg209958 6 (gm_hg209958 1 q195835) := by rw [hf209967, r209975.1]; exact x195836
              have r209977 : gm_hg209958 6 fo = γ0 6 fo := r209975.1
              have r209978 : gm_hg209958 7 fo = 0 := by rw [r209975.2.1]; exact x195837
              have r209980 := RS_valid hT0 hzq195835 hfo0 x195836
              have r209979 := (rSk_o (i := g209138.toInt.toNat) hT0 hs209963 hzq195835 (by rw [hfo0]; exact hne)).2.2.2 (by omega)
              rw [← x209802] at r209979
              have xs209981 : gm_hg209958 2 (gm_hg209958 14 q209244) = γ0 2 (γ0 14 q209244) := by rw [r209979.1]; exact r209979.2.1
              have hB209982 : rBd gm_hg209958 el_F209783 f B := hv209957.2.2.2 B hB209787
              have hph209983 : rPh γ0 el0 f ≤ rPh gm_hg209958 el_F209783 f := by rw [r209961]; exact hph209786
              have pk209984 : rPh gm_hg209958 el_F209783 f ≤ 387 * B + 6000 := rm_pk (rM_ge hT209962 ht209964 hf209965).1 (rM_bd hB209982)
              refine G_widen (cs' := ((rPh gm_hg209958 el_F209783 f - rPh γ0 el0 f) / 18)) (sl' := (rPh gm_hg209958 el_F209783 f - rPh γ0 el0 f)) (rm_ec r209961) (rm_es r209961) ?_
              have r209985 := gSea_n hg209958 f
              have kb209986 : rKb gm_hg209958 el_F209783 q195834 (g209138.toInt + 1 : Int).toNat := rKb_s kb209974 (by omega) (by rw [(rSk_s hk209960 ht209805 (by decide)).2.1, r209791, hg209958]; exact if_pos rfl)
              obtain ⟨z209987, hz209987⟩ : ∃ z : Int32, z = g209138 + Int32.ofInt 1 := ⟨_, rfl⟩
              have ez209987 : z209987.toInt = g209138.toInt + 1 := gI_inc hz209987 (by decide) bg209138' (by decide) (by decide)
              have bz209987 : gB z209987 1 1000000 := ⟨by omega, by omega⟩
              refine G_iinc (L' := [(2, .int z209987), (5, .int g209781), (4, .ref q209283), (3, .ref q209244), (0, .ref q195834), (1, .ref q195835)]) z209987 3 dr_cX13_copy_111 rfl hz209987.symm (Nat.le_of_ble_eq_true rfl) rfl ?_
              refine G_goto 6 dr_cX13_copy_114 (by decide +kernel) ?_
              refine G_lv (L' := [(2, .int z209987), (0, .ref q195834), (1, .ref q195835)]) [0, 4, 5] rfl ?_
              have rs209988 : rsum (fun i => γ0 2 (γ0 14 (el0 (γ0 14 q195835) i))) z209987.toInt.toNat = rsum (fun i => γ0 2 (γ0 14 (el0 (γ0 14 q195835) i))) g209138.toInt.toNat + γ0 2 (γ0 14 (el0 (γ0 14 q195835) g209138.toInt.toNat)) := rsum_1 (by omega) (by omega)
              rw [← x209802] at rs209988
              exact ih6_209152 P209782 F209943 gm_hg209958 el_F209783 z209987 (gB_w bz209987 (by decide) (by decide)) hT209962 hs209963 hph209983 hB209982 (by omega) (by omega) (by omega) (by omega) (by omega) (by rw [show z209987.toInt.toNat = (g209138.toInt + 1 : Int).toNat by omega]; exact kb209986) (by omega) (by omega) (fun k e1 e2 e3 e4 ht => kt6_209153 k e1 e2 e3 e4 (fun R c1 c2 => c2 P209139 F209140 gm_F209140 el_F209140 g209138 p209168 q209165 q209244 p209226 P209281 F209282 gm_F209282 el_F209282 q209283 dc209284 ds209285 F209783 P209782 gm_F209783 el_F209783 q209863 q209820 p209895 p209896 p209897 p209898 p209899 p209900 p209901 F209920 p209821 F209933 p209822 F209943 gm_hg209958 z209987 k e1 e2 e3 e4 bg209138 hT209141 hs209142 x209145 x209146 x209147 x209148 x209149 x209150 x209151 x209152 fq209190 r209222 fq209249 hx209245 fq209267 ht209273 hq209287 hx209859 fq209878 fq209879 fq209908 fq209909 fq209910 fq209911 fq209912 fq209913 fq209914 hfr209928 he209923 fq209932 n209935 fq209941 fq209942 n209945 fq209952 fq209959 hg209958 ez209987 (ht R c1 c2))) (rm_m1 ez209987 bg209138'.1 x209801 hm6_209152)
            · have r209989 : g209781.toInt < p209843.toInt := gC_nle hc209857
              have bg209781' : gB g209781 0 999999 := ⟨by omega, by omega⟩
              have bp209843' : gB p209843 1 1000000 := ⟨by omega, by omega⟩
              have jl209990 : (g209781.toInt : Int) < γ0 2 (γ0 14 q209244) := by omega
              refine G_aload_n 4 dr_cX13_copy_41 rfl ?_
              have r209991 := (RS_valid hT0 hzq195835 hfo0 x195836).2.2.2.2
              have r209992 : rsum (fun i => γ0 2 (γ0 14 (el0 (γ0 14 q195835) i))) (g209138.toInt + 1).toNat = rsum (fun i => γ0 2 (γ0 14 (el0 (γ0 14 q195835) i))) g209138.toInt.toNat + γ0 2 (γ0 14 (el0 (γ0 14 q195835) g209138.toInt.toNat)) := rsum_1 rfl bg209138'.1
              rw [← x209802] at r209992
              have r209993 : rsum (fun i => γ0 2 (γ0 14 (el0 (γ0 14 q195835) i))) (g209138.toInt + 1).toNat ≤ rsum (fun i => γ0 2 (γ0 14 (el0 (γ0 14 q195835) i))) (γ0 6 fo) := rsum_m _ (rm_tn x209801)
              have r209995 : gm_F209783 16 f + 1 ≤ B := by omega
              have rg209996 := rM_ge hT209784 ht209805 hf209806
              have rm209997 := rM_bd hB209787
              have bd209998 := rBd_c hT209784 ht209805 hf209806 hB209787
              have rc209999 := rc_at hT209784 ht209805 hf209806
              obtain ⟨q210006, hl210007⟩ : ∃ z, z = gm_F209783 14 q209283 := ⟨_, rfl⟩
              have hl210008 : gm_F209783 0 q210006 = 3 ∨ gm_F209783 0 q210006 = 103 := by rw [hl210007, ← r209791]; exact (RS_lst hT209784 rc209999.2.1 r209790).1
              refine Gt_row (c := q195834) (f := f) hl0 dr_cX13_copy_42 ⟨wr_10_143, wr_1_15, wr_10_82, by decide, rfl, (Nat.le_of_ble_eq_true rfl), (Nat.le_of_ble_eq_true rfl)⟩ wr_10_80 wr_10_81 hT209784 ht209805 hf209806 (Nat.le_trans bd209998.2.2.1 (Nat.le_trans hBk (by decide))) (rm_cs hph209786 rg209996.2.1 rm209997 (by decide)) (rm_sl hph209786 rg209996.2.1 rm209997 rm_s18) (Nat.le_of_ble_eq_true rfl) (fun P210000 F210001 gm_F210001 el_F210001 q210002 dc210003 ds210004 hq210005 => ?_)
              have hq210009 := hq210005
              obtain ⟨hk210010, x0210011, x1210012, x22210013, x8210014, h16210015, h18210016, hnu210017, hot210018, h45210019, hf0210020, ⟨hr1210021, hr2210022⟩, hM210023, hBB210024⟩ := hq210005
              have hk210025 := rSk_of hk210010
              have hT210026 := hk210025.1
              have hs210027 := rSk_tr hs209785 hk210025 (by decide) (by decide) (by decide)
              have ht210028 : rKd gm_F210001 q195834 9 := rSk_k hk210025 ht209805 (by decide) (by decide)
              have hf210029 : gm_F210001 1 q195834 = f := rSk_1 hk210025 ht209805 (by decide) hf209806
              have ht210030 : rKd gm_F210001 q195835 9 := rSk_kf hk210025 ht209807 (by decide) (by rw [hf209808]; exact hne)
              have hf210031 : gm_F210001 1 q195835 = fo := rSk_1 hk210025 ht209807 (by decide) hf209808
              have ht210032 : rKd gm_F210001 q209283 202 := rSk_k hk210025 ht209788 (by decide) (by decide)
              have hf210033 : gm_F210001 1 q209283 = f := rSk_1 hk210025 ht209788 (by decide) hf209789
              have ht210034 : rKd gm_F210001 q209244 2 := rSk_kf hk210025 ht209792 (by decide) (by rw [hf209793]; exact hne)
              have hf210035 : gm_F210001 1 q209244 = fo := rSk_1 hk210025 ht209792 (by decide) hf209793
              have ht210036 : rKd gm_F210001 q209819 3 := rSk_kf hk210025 ht209823 (by decide) (by rw [hf209832]; exact hne)
              have hf210037 : gm_F210001 1 q209819 = fo := rSk_1 hk210025 ht209823 (by decide) hf209832
              have r210038 := (rSk_s hk210025 ht209805 (by decide)).2.1
              have r210039 := hot210018 _ (by rw [rc209999.2.1]; decide) (by rw [rc209999.2.1]; decide)
              have r210040 : (g209138.toInt : Int).toNat < gm_F210001 2 (gm_F210001 14 q195834) := by rw [r210038, r210039.1]; exact r209790
              have r210041 : el_F210001 (gm_F210001 14 q195834) (g209138.toInt : Int).toNat = q209283 := by rw [r210038, r210039.2]; exact r209791
              have kb210042 : rKb gm_F210001 el_F210001 q195834 (g209138.toInt : Int).toNat := rKb_t x209799 hk210025 (by decide) r210038 (fun i _ => by rw [r210039.2])
              clear bp209821 bp209822 r209830 r209831 rg209996 rm209997 bd209998 rc209999
              have r210043 := rSk_g hs210027 hne
              have r210044 : 0 < gm_F210001 6 (gm_F210001 1 q195835) := by rw [hf210031, r210043.1]; exact x195836
              have r210045 : gm_F210001 6 fo = γ0 6 fo := r210043.1
              have r210046 : gm_F210001 7 fo = 0 := by rw [r210043.2.1]; exact x195837
              have r210048 := RS_valid hT0 hzq195835 hfo0 x195836
              have r210047 := (rSk_o (i := g209138.toInt.toNat) hT0 hs210027 hzq195835 (by rw [hfo0]; exact hne)).2.2.2 (by omega)
              rw [← x209802] at r210047
              have xs210049 : gm_F210001 2 (gm_F210001 14 q209244) = γ0 2 (γ0 14 q209244) := by rw [r210047.1]; exact r210047.2.1
              have sz210050 := (rSk_s hk210025 ht209788 (by decide)).2.1
              have sz210051 := congrArg (gm_F210001 2) sz210050
              have sz210052 := (hot210018 q210006 (by omega) (by omega)).1
              rw [hl210007] at sz210052
              clear hl210008
              have sz210053 := (hot210018 q209819 (rT0 ht209823 (by decide)) (by rw [show _ = 3 from ht209823]; decide)).1
              obtain ⟨nu210054, nu210055, nu210056, nu210057⟩ := hnu210017
              have r210058 := hf0210020.2.2
              have hB210059 : rBd gm_F210001 el_F210001 f B := hBB210024 B r209995 hB209787
              have ht210060 : rKd gm_F210001 q210002 101 := x0210011
              have r210061 : gm_F210001 8 q210002 < gm_F210001 16 f := rm_x8 x8210014 h16210015 rfl
              have hph210062 : rPh γ0 el0 f ≤ rPh gm_F210001 el_F210001 f := rm_ph hph209786 hr2210022
              have pk210063 : rPh gm_F210001 el_F210001 f ≤ 387 * B + 6000 := rm_pk (rM_ge hT210026 ht210028 hf210029).1 (rM_bd hB210059)
              have hm210064 : q210002 ∈ P210000 := RS_m hT210026 ht210060 (by decide)
              obtain ⟨p210066, p210067, p210068, p210069, p210070, p210071, p210072, he210065, bp210066, bp210067, bp210070, bp210071, bp210072, r210073, r210074, r210075⟩ := show rkR (F210001 q210002) from RS_o hT210026 ht210060
              have bp210068 := gB_any p210068
              have bp210069 := gB_any p210069
              have r210076 : gm_F210001 7 (gm_F210001 1 q210002) = gm_F210001 7 f := by rw [x1210012]
              have r210077 : p210071.toInt = 0 := by have z := hf0210020.1; rw [he210065] at z; exact z
              have bp210071' : gB p210071 0 0 := ⟨by omega, by omega⟩
              have r210078 : p210072.toInt = 0 := by have z := hf0210020.2.1; rw [he210065] at z; exact z
              have bp210072' : gB p210072 0 0 := ⟨by omega, by omega⟩
              refine G_widen (cs' := ((rPh gm_F210001 el_F210001 f - rPh γ0 el0 f) / 18)) (sl' := (rPh gm_F210001 el_F210001 f - rPh γ0 el0 f)) (rm_wc hph209786 hr1210021) (rm_ws hph209786 hr2210022) ?_
              refine G_astore (L' := [(6, .ref q210002), (5, .int g209781), (4, .ref q209283), (3, .ref q209244), (2, .int g209138), (0, .ref q195834), (1, .ref q195835)]) dr_cX13_copy_45 (Nat.le_of_ble_eq_true rfl) rfl ?_
              refine G_aload 0 dr_cX13_copy_47 rfl ?_
              refine G_aload_n 3 dr_cX13_copy_49 rfl ?_
              have hm210079 : q209244 ∈ P210000 := RS_m hT210026 ht210034 (by decide)
              obtain ⟨q210081, q210082, p210083, p210084, he210080, ht210091, ht210085, ht210086, ht210087, ht210088, ht210089, bp210083, bp210084, r210090, r210092, r210093⟩ := show rk_2 gm_F210001 q209244 (F210001 q209244) from RS_o hT210026 ht210034
              have hf210094 : gm_F210001 1 q210081 = fo := (show gm_F210001 1 q210081 = gm_F210001 1 q209244 from ht210086).trans hf210035
              have hf210095 : gm_F210001 1 q210082 = fo := (show gm_F210001 1 q210082 = gm_F210001 1 q209244 from ht210088).trans hf210035
              have r210096 : gm_F210001 6 (gm_F210001 1 q209244) = gm_F210001 6 fo := by rw [hf210035]
              have r210097 : gm_F210001 7 (gm_F210001 1 q209244) = gm_F210001 7 fo := by rw [hf210035]
              have r210098 : gm_F210001 19 (gm_F210001 1 q209244) = gm_F210001 19 fo := by rw [hf210035]
              have r210099 := r210090.resolve_left (by omega)
              clear r210090
              have r210100 : gm_F210001 2 (gm_F210001 14 q209244) = gm_F210001 2 q210081 := by rw [ht210091.1]
              have fq210101 : fR (F210001 q209244) 0 = q210081 := by rw [he210080]; rfl
              refine Gp_get 0 hm210079 he210080 dr_cX13_copy_50 (gk_X12 D I) (Nat.le_of_ble_eq_true rfl) wr_9_219 rfl ?_
              have jl210102 : g209781.toInt.toNat < gm_F210001 2 q210081 := rm_ix bg209781'.1 jl209990 xs210049 (by rw [ht210091.1])
              refine G_iload 1 dr_cX13_copy_53 rfl ?_
              have hm210103 : q210081 ∈ P210000 := RS_m hT210026 ht210085 (by decide)
              obtain ⟨⟨p210105, p210106, q210107, he210104, r210108, r210109, r210110, r210112⟩, r210111⟩ := show rk_3 D I gm_F210001 el_F210001 F210001 q210081 from RS_o hT210026 ht210085
              have bp210105 := gB_any p210105
              have bp210106 : gB p210106 0 1000000 := ⟨by omega, by omega⟩
              obtain ⟨r210113, r210114, n210121, f210122, r210115, r210116, r210117, r210118, r210119, r210120⟩ := rLC_n r210110 (by omega)
              have hm210123 : q210107 ∈ P210000 := RS_m hT210026 r210113 (by decide)
              obtain ⟨q210124, hx210125⟩ : ∃ x, x = el_F210001 q210081 g209781.toInt.toNat := ⟨_, rfl⟩
              have hx210126 : f210122 g209781.toNatClampNeg = some q210124 := (r210119 _ (show g209781.toInt.toNat < gm_F210001 2 q210081 by first | assumption | omega)).trans (by rw [hx210125])
              have ht210127 : rKd gm_F210001 q210124 1 := by rw [hx210125]; exact (r210111 _ (show g209781.toInt.toNat < gm_F210001 2 q210081 by first | assumption | omega)).1
              have ht210128 : rFm gm_F210001 q210124 q210081 := by rw [hx210125]; exact (r210111 _ (show g209781.toInt.toNat < gm_F210001 2 q210081 by first | assumption | omega)).2.1
              have hf210129 : gm_F210001 1 q210124 = fo := (show gm_F210001 1 q210124 = gm_F210001 1 q210081 from ht210128).trans hf210094
              have fq210130 : fI (F210001 q210081) 2 = p210106 := by rw [he210104]; rfl
              refine Gw_callV (As := [.int g209781]) (gV_ok D I) (cp_22_ArrayList_get l hl0 D I P210000 F210001 q210081 q210107 g209781 p210105 p210106 f210122 n210121 q210124 hm210103 hm210123 he210104 r210115 (gB_w bg209781' (by decide) (by decide)) (gB_w bp210106 (by decide) (by decide)) (by omega) (by omega) (by assumption) (by omega)) dr_cX13_copy_55 ⟨wr_10_62, wr_1_18, wr_10_65, by decide, rfl, (Nat.le_of_ble_eq_true rfl), (Nat.le_of_ble_eq_true rfl)⟩ wr_10_63 wr_10_64 hm210103 he210104 rfl (rm_zc pk210063) (rm_zs pk210063) (Nat.le_of_ble_eq_true rfl) (fun r210134 w210135 dc210131 ds210132 hp210133 => ?_) (fun _ _ _ _ _ z => z.elim)
              obtain ⟨rfl, rfl, hdc, hds, ht210136⟩ := hp210133
              change G _ _ _ _ _ _ _ (.ref q210124 :: _) _ _ _
              refine G_widen (cs' := ((rPh gm_F210001 el_F210001 f - rPh γ0 el0 f) / 18)) (sl' := (rPh gm_F210001 el_F210001 f - rPh γ0 el0 f)) (rm_d0 hdc) (rm_d0 hds) ?_
              have hm210137 : q210124 ∈ P210000 := RS_m hT210026 ht210127 (by decide)
              obtain ⟨p210139, p210140, p210141, p210142, p210143, p210144, p210145, he210138, bp210139, bp210140, bp210143, bp210144, bp210145, r210146, r210147, r210148, r210149, r210150⟩ := show rk_1 gm_F210001 q210124 (F210001 q210124) from RS_o hT210026 ht210127
              have bp210141 := gB_any p210141
              have bp210142 := gB_any p210142
              have r210151 : gm_F210001 7 (gm_F210001 1 q210124) = gm_F210001 7 fo := by rw [hf210129]
              refine Gp_cast hm210137 he210138 rfl dr_cX13_copy_58 wr_10_83 (gr_cast 1 rfl) ?_
              have fq210152 : fI (F210001 q210124) 0 = p210139 := by rw [he210138]; rfl
              have fq210153 : fI (F210001 q210124) 1 = p210140 := by rw [he210138]; rfl
              have fq210154 : fI (F210001 q210124) 2 = p210141 := by rw [he210138]; rfl
              have fq210155 : fI (F210001 q210124) 3 = p210142 := by rw [he210138]; rfl
              have fq210156 : fI (F210001 q210124) 4 = p210143 := by rw [he210138]; rfl
              have fq210157 : fI (F210001 q210124) 5 = p210144 := by rw [he210138]; rfl
              have fq210158 : fI (F210001 q210124) 6 = p210145 := by rw [he210138]; rfl
              refine Gw_callV (As := [.ref q210124]) (gV_ok D I) (cp_1728_Row_put l hl0 D I P210000 F210001 q210002 q210124 p210066 p210067 p210068 p210069 p210070 p210071 p210072 p210139 p210140 p210141 p210142 p210143 p210144 p210145 hm210064 hm210137 he210065 he210138 (rn_ty ht210060 ht210127 (by decide)) bp210066 bp210067 bp210070 (gB_w bp210071' (by decide) (by decide)) (gB_w bp210072' (by decide) (by decide)) bp210139 bp210140 bp210143 bp210144 bp210145) dr_cX13_copy_61 ⟨wr_10_144, wr_1_39, wr_10_147, by decide, rfl, (Nat.le_of_ble_eq_true rfl), (Nat.le_of_ble_eq_true rfl)⟩ wr_10_145 wr_10_146 hm210064 he210065 rfl (rm_zc pk210063) (rm_zs pk210063) (Nat.le_of_ble_eq_true rfl) (fun r210162 w210163 dc210159 ds210160 hp210161 => ?_) (fun _ _ _ _ _ z => z.elim)
              obtain ⟨F210164, rfl, rfl, hfr210166, he210167, he210168, hdc, hds⟩ := hp210161
              have he210169 : F210164 q209244 = .inr (17, [.ref q210081, .ref q210082, .int p210083, .int p210084]) := (hfr210166 q209244 hm210079 (nm_c (rn_oo he210080 he210065 (by decide)) nm_n)).trans he210080
              have he210170 : F210164 q210081 = .inr (4, [.int p210105, .ref q210107, .int p210106]) := (hfr210166 q210081 hm210103 (nm_c (rn_oo he210104 he210065 (by decide)) nm_n)).trans he210104
              have he210171 : F210164 q210107 = .inl (I (.object "java/lang/Object"), n210121, .inr (.inr (.inr (.inr f210122)))) := (hfr210166 q210107 hm210123 (nm_c (rn_ao r210115 he210065) nm_n)).trans r210115
              have hfr210172 : rFr [q210002] P210000 F210001 F210164 := rFr_call (rSub_rf (P := P210000)) (rFr_rf (W := []) (P := P210000) (F := F210001)) hfr210166 (fun b hb hn => ⟨nm_n, (nm_c (fun e => hn (e ▸ List.mem_cons_self)) nm_n)⟩)
              change G _ _ _ _ _ _ _ _ _ _ _
              refine G_widen (cs' := ((rPh gm_F210001 el_F210001 f - rPh γ0 el0 f) / 18)) (sl' := (rPh gm_F210001 el_F210001 f - rPh γ0 el0 f)) (rm_d0 hdc) (rm_d0 hds) ?_
              have hT210173 : RS D I P210000 F210164 gm_F210001 el_F210001 := RS_fr hT210026 hfr210172 ht210060 (by decide) ⟨p210139, p210140, p210141, p210142, p210143, p210144, p210145, he210167, bp210139, bp210140, bp210143, bp210144, bp210145, r210146, r210147, r210148⟩
              have hs210174 := rSk_fr hs210027 hT210173 hfr210172 ht210060 (by decide) (by decide)
              have md210175 : (fI (F210164 q195834) 3).toInt = (fI (F210001 q195834) 3).toInt := by rw [hfr210172 q195834 (RS_m hT210026 ht210028 (by decide)) (nm_c (rn_ty ht210028 ht210060 (by decide)) nm_n)]
              refine G_aload 2 dr_cX13_copy_64 rfl ?_
              have hm210176 : q209283 ∈ P210000 := RS_m hT210173 ht210032 (by decide)
              obtain ⟨q210178, q210179, p210180, p210181, he210177, ht210187, ht210182, ht210183, ht210184, ht210185, ht210186, bp210180, bp210181⟩ := show rk_202 gm_F210001 q209283 (F210164 q209283) from RS_o hT210173 ht210032
              have hf210188 : gm_F210001 1 q210178 = f := (show gm_F210001 1 q210178 = gm_F210001 1 q209283 from ht210183).trans hf210033
              have hf210189 : gm_F210001 1 q210179 = f := (show gm_F210001 1 q210179 = gm_F210001 1 q209283 from ht210185).trans hf210033
              have r210190 : gm_F210001 6 (gm_F210001 1 q209283) = gm_F210001 6 f := by rw [hf210033]
              have r210191 : gm_F210001 7 (gm_F210001 1 q209283) = gm_F210001 7 f := by rw [hf210033]
              have r210192 : gm_F210001 19 (gm_F210001 1 q209283) = gm_F210001 19 f := by rw [hf210033]
              have r210193 : gm_F210001 2 (gm_F210001 14 q209283) = gm_F210001 2 q210178 := by rw [ht210187.1]
              have fq210194 : fR (F210164 q209283) 0 = q210178 := by rw [he210177]; rfl
              refine Gp_get 0 hm210176 he210177 dr_cX13_copy_66 (gk_X12 D I) (Nat.le_of_ble_eq_true rfl) wr_9_219 rfl ?_
              refine G_aload 0 dr_cX13_copy_69 rfl ?_
              have rg210195 := rM_ge hT210173 ht210028 hf210029
              have rm210196 := rM_bd hB210059
              have bd210197 := rBd_c hT210173 ht210028 hf210029 hB210059
              have rc210198 := rc_at hT210173 ht210028 hf210029
              have r210200 : gm_F210001 14 (el_F210001 (gm_F210001 14 q195834) (g209138.toInt : Int).toNat) = q210178 := by rw [r210041]; exact ht210187.1
              have r210201 := rg210195.2.2 _ r210040
              rw [r210200] at r210201
              have r210202 := bd210197.2.2.2 _ r210040
              rw [r210200] at r210202
              have r210203 : gm_F210001 7 (gm_F210001 1 q210002) = gm_F210001 7 f := by rw [x1210012]
              have hx210204 : rk_1 gm_F210001 q210002 (F210164 q210002) := ⟨p210139, p210140, p210141, p210142, p210143, p210144, p210145, he210167, bp210139, bp210140, bp210143, bp210144, bp210145, r210146, r210147, r210148, (Or.inl (r210149.resolve_right (by omega))), (Or.inl x22210013)⟩
              refine Gt_add (c := q195834) (f := f) hl0 dr_cX13_copy_71 ⟨wr_10_3, wr_1_18, wr_10_6, by decide, rfl, (Nat.le_of_ble_eq_true rfl), (Nat.le_of_ble_eq_true rfl)⟩ wr_10_4 wr_10_5 hT210173 ht210182 hf210188 ht210060 x1210012 x22210013 r210061 (by omega) ht210028 hf210029 r210040 r210200 hx210204 (Nat.le_trans r210202 (Nat.le_trans hBk (by decide))) (rm_cs hph210062 r210201 rm210196 (by decide)) (rm_sl hph210062 r210201 rm210196 rm_s11) (Nat.le_of_ble_eq_true rfl) (fun P210205 F210199 gm_F210199 el_F210199 dc210206 ds210207 hq210208 => ?_)
              have hq210209 := hq210208
              obtain ⟨hk210210, x0210211, h2210212, hel210213, hot210214, h16210215, h18210216, hnu210217, hFx210218, hr210219, hM210220, hBB210221⟩ := hq210208
              have hk210222 := rSk_of hk210210
              have r210223 : (fI (F210199 q195834) 3).toInt = (fI (F210164 q195834) 3).toInt := by rw [rSk_F hk210222 ht210028 (by decide) (by decide)]
              have hT210224 := hk210222.1
              have hs210225 := rSk_tr hs210174 hk210222 (by decide) (by decide) (by decide)
              have ht210226 : rKd gm_F210199 q195834 9 := rSk_k hk210222 ht210028 (by decide) (by decide)
              have hf210227 : gm_F210199 1 q195834 = f := rSk_1 hk210222 ht210028 (by decide) hf210029
              have ht210228 : rKd gm_F210199 q195835 9 := rSk_kf hk210222 ht210030 (by decide) (by rw [hf210031]; exact hne)
              have hf210229 : gm_F210199 1 q195835 = fo := rSk_1 hk210222 ht210030 (by decide) hf210031
              have ht210230 : rKd gm_F210199 q209283 202 := rSk_k hk210222 ht210032 (by decide) (by decide)
              have hf210231 : gm_F210199 1 q209283 = f := rSk_1 hk210222 ht210032 (by decide) hf210033
              have ht210232 : rKd gm_F210199 q209244 2 := rSk_kf hk210222 ht210034 (by decide) (by rw [hf210035]; exact hne)
              have hf210233 : gm_F210199 1 q209244 = fo := rSk_1 hk210222 ht210034 (by decide) hf210035
              have ht210234 : rKd gm_F210199 q209819 3 := rSk_kf hk210222 ht210036 (by decide) (by rw [hf210037]; exact hne)
              have hf210235 : gm_F210199 1 q209819 = fo := rSk_1 hk210222 ht210036 (by decide) hf210037
              have ht210236 : rKd gm_F210199 q210081 3 := rSk_kf hk210222 ht210085 (by decide) (by rw [hf210094]; exact hne)
              have hf210237 : gm_F210199 1 q210081 = fo := rSk_1 hk210222 ht210085 (by decide) hf210094
              have ht210238 : rKd gm_F210199 q210178 3 := rSk_k hk210222 ht210182 (by decide) (by decide)
              have hf210239 : gm_F210199 1 q210178 = f := rSk_1 hk210222 ht210182 (by decide) hf210188
              have r210240 := (rSk_s hk210222 ht210028 (by decide)).2.1
              have r210241 := hot210214 _ (by rw [rc210198.2.1]; decide) (fun q => by rw [q, show _ = 3 from ht210182] at rc210198; exact absurd rc210198.2.1 (by decide))
              have r210242 : (g209138.toInt : Int).toNat < gm_F210199 2 (gm_F210199 14 q195834) := by rw [r210240, r210241.1]; exact r210040
              have r210243 : el_F210199 (gm_F210199 14 q195834) (g209138.toInt : Int).toNat = q209283 := by rw [r210240, r210241.2]; exact r210041
              have kb210244 : rKb gm_F210199 el_F210199 q195834 (g209138.toInt : Int).toNat := rKb_t kb210042 hk210222 (by decide) r210240 (fun i _ => by rw [r210241.2])
              clear bp210066 bp210067 bp210070 bp210071 bp210072 bp210068 bp210069 bp210083 bp210084 r210092 r210093 bp210139 bp210140 bp210143 bp210144 bp210145 bp210141 bp210142 bp210180 bp210181 rg210195 rm210196 bd210197 rc210198 r210201 r210202
              clear r210073 r210074 r210075 r210146 r210147 r210148 r210149 r210150
              have r210245 := rSk_g hs210225 hne
              have r210246 : 0 < gm_F210199 6 (gm_F210199 1 q195835) := by rw [hf210229, r210245.1]; exact x195836
              have r210247 : gm_F210199 6 fo = γ0 6 fo := r210245.1
              have r210248 : gm_F210199 7 fo = 0 := by rw [r210245.2.1]; exact x195837
              have r210250 := RS_valid hT0 hzq195835 hfo0 x195836
              have r210249 := (rSk_o (i := g209138.toInt.toNat) hT0 hs210225 hzq195835 (by rw [hfo0]; exact hne)).2.2.2 (by omega)
              rw [← x209802] at r210249
              have xs210251 : gm_F210199 2 (gm_F210199 14 q209244) = γ0 2 (γ0 14 q209244) := by rw [r210249.1]; exact r210249.2.1
              first | have sz210252 := (hot210214 q209819 (rT0 ht210036 (by decide)) (by assumption)).1 | skip
              first | have sz210253 := (hot210214 q210081 (rT0 ht210085 (by decide)) (by assumption)).1 | skip
              obtain ⟨nu210254, nu210255, nu210256, nu210257⟩ := hnu210217
              have ht210258 : rKd gm_F210199 q210002 1 := x0210211
              have hB210259 : rBd gm_F210199 el_F210199 f B := hBB210221 B hB210059
              have hph210260 : rPh γ0 el0 f ≤ rPh gm_F210199 el_F210199 f := rm_ph hph210062 hr210219.2
              have pk210261 : rPh gm_F210199 el_F210199 f ≤ 387 * B + 6000 := rm_pk (rM_ge hT210224 ht210226 hf210227).1 (rM_bd hB210259)
              refine G_widen (cs' := ((rPh gm_F210199 el_F210199 f - rPh γ0 el0 f) / 18)) (sl' := (rPh gm_F210199 el_F210199 f - rPh γ0 el0 f)) (rm_wc hph210062 hr210219.1) (rm_ws hph210062 hr210219.2) ?_
              refine G_pop dr_cX13_copy_74 rfl ?_
              obtain ⟨z210262, hz210262⟩ : ∃ z : Int32, z = g209781 + Int32.ofInt 1 := ⟨_, rfl⟩
              have ez210262 : z210262.toInt = g209781.toInt + 1 := gI_inc hz210262 (by decide) bg209781' (by decide) (by decide)
              have bz210262 : gB z210262 1 1000000 := ⟨by omega, by omega⟩
              refine G_iinc (L' := [(5, .int z210262), (6, .ref q210002), (4, .ref q209283), (3, .ref q209244), (2, .int g209138), (0, .ref q195834), (1, .ref q195835)]) z210262 1 dr_cX13_copy_75 rfl hz210262.symm (Nat.le_of_ble_eq_true rfl) rfl ?_
              refine G_goto 29 dr_cX13_copy_78 (by decide +kernel) ?_
              refine G_lv (L' := [(5, .int z210262), (4, .ref q209283), (3, .ref q209244), (2, .int g209138), (0, .ref q195834), (1, .ref q195835)]) [0, 2, 3, 4, 5, 6] rfl ?_
              exact ih29_209803 P210205 F210199 gm_F210199 el_F210199 z210262 (gB_w bz210262 (by decide) (by decide)) hT210224 hs210225 hph210260 hB210259 ht210230 hf210231 r210242 r210243 ht210232 hf210233 (by omega) (by omega) (by omega) (by omega) (by omega) kb210244 (by omega) (by omega) x209802 (by omega) (fun k e1 e2 e3 e4 ht => kt29_209804 k e1 e2 e3 e4 (fun R c1 c2 => c2 P209782 F209783 gm_F209783 el_F209783 g209781 q209819 p209843 P210000 F210001 gm_F210001 el_F210001 q210002 dc210003 ds210004 q210081 q210124 p210106 p210139 p210140 p210141 p210142 p210143 p210144 p210145 F210164 q210178 P210205 F210199 gm_F210199 el_F210199 dc210206 ds210207 z210262 k e1 e2 e3 e4 bg209781 hT209784 hs209785 x209794 x209795 x209796 x209797 x209798 x209799 x209800 x209801 x209802 x209803 fq209839 fq209850 fq209851 r209989 hq210009 fq210101 hx210125 fq210130 ht210136 fq210152 fq210153 fq210154 fq210155 fq210156 fq210157 fq210158 hfr210172 he210167 fq210194 hq210209 ez210262 (ht R c1 c2))) (rm_m1 ez210262 bg209781'.1 jl209990 hm29_209803)
        exact hlp29_209803 ((γ0 2 (γ0 14 q209244) - (0 : Int).toNat) + 1) P209281 F209282 gm_F209282 el_F209282 0 (gB_w (gBl (show Int32.toInt 0 = 0 by decide)) (by decide) (by decide)) hT209309 hs209310 hph209335 hB209325 ht209331 b1209290 r209333 r209334 ht209315 hf209316 (by have qa0 : Int32.toInt 0 = 0 := (by decide); omega) (by have qa0 : Int32.toInt 0 = 0 := (by decide); omega) (by have qa0 : Int32.toInt 0 = 0 := (by decide); omega) (by have qa0 : Int32.toInt 0 = 0 := (by decide); omega) (by have qa0 : Int32.toInt 0 = 0 := (by decide); omega) kb209317 (by have qa0 : Int32.toInt 0 = 0 := (by decide); omega) (by have qa0 : Int32.toInt 0 = 0 := (by decide); omega) hx0209276 (by have qa0 : Int32.toInt 0 = 0 := (by decide); omega) (fun k e1 e2 e3 e4 ht => ht) (Nat.lt_succ_self _)
  exact hlp6_209152 ((γ0 6 fo - (0 : Int).toNat) + 1) P195832 F195848 gm_F195848 el_F195848 0 (gB_w (gBl (show Int32.toInt 0 = 0 by decide)) (by decide) (by decide)) hT195865 hs195866 hph195876 hB195875 (by have qa0 : Int32.toInt 0 = 0 := (by decide); omega) (by have qa0 : Int32.toInt 0 = 0 := (by decide); omega) (by have qa0 : Int32.toInt 0 = 0 := (by decide); omega) (by have qa0 : Int32.toInt 0 = 0 := (by decide); omega) (by have qa0 : Int32.toInt 0 = 0 := (by decide); omega) rKb_0 (by show gm_F195848 16 f ≤ 0; omega) (by have qa0 : Int32.toInt 0 = 0 := (by decide); omega) (fun k e1 e2 e3 e4 ht => ht) (Nat.lt_succ_self _)
