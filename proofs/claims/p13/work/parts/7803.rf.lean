theorem dr_cX13_size_0 : decode cX13_size 0 = .ok (.aload_n 0, 1) := by decide +kernel
theorem dr_cX13_size_1 : decode cX13_size 1 = .ok (.getfield 23, 3) := by decide +kernel
theorem dr_cX13_size_4 : decode cX13_size 4 = .ok (.ireturn, 1) := by decide +kernel
theorem dr_cX17_reached_0 : decode cX17_reached 0 = .ok (.iload_n 1, 1) := by decide +kernel
theorem dr_cX17_reached_1 : decode cX17_reached 1 = .ok (.ifCond .ne 5, 3) := by decide +kernel
theorem dr_cX17_reached_6 : decode cX17_reached 6 = .ok (.lconst 1, 1) := by decide +kernel
theorem dr_cX17_reached_7 : decode cX17_reached 7 = .ok (.lstore_n 2, 1) := by decide +kernel
theorem dr_cX17_reached_8 : decode cX17_reached 8 = .ok (.iconst 1, 1) := by decide +kernel
theorem dr_cX17_reached_9 : decode cX17_reached 9 = .ok (.istore 4, 2) := by decide +kernel
theorem dr_cX17_reached_11 : decode cX17_reached 11 = .ok (.iload 4, 2) := by decide +kernel
theorem dr_cX17_reached_13 : decode cX17_reached 13 = .ok (.ifCond .eq 107, 3) := by decide +kernel
theorem dr_cX17_reached_120 : decode cX17_reached 120 = .ok (.lload_n 2, 1) := by decide +kernel
theorem dr_cX17_reached_121 : decode cX17_reached 121 = .ok (.lreturn, 1) := by decide +kernel
theorem dr_cX17_reached_16 : decode cX17_reached 16 = .ok (.iconst 0, 1) := by decide +kernel
theorem dr_cX17_reached_17 : decode cX17_reached 17 = .ok (.istore 4, 2) := by decide +kernel
theorem dr_cX17_reached_19 : decode cX17_reached 19 = .ok (.iconst 0, 1) := by decide +kernel
theorem dr_cX17_reached_20 : decode cX17_reached 20 = .ok (.istore 5, 2) := by decide +kernel
theorem dr_cX17_reached_22 : decode cX17_reached 22 = .ok (.iload 5, 2) := by decide +kernel
theorem dr_cX17_reached_24 : decode cX17_reached 24 = .ok (.aload_n 0, 1) := by decide +kernel
theorem dr_cX17_reached_25 : decode cX17_reached 25 = .ok (.invokevirtual 96, 3) := by decide +kernel
theorem wr_10_160 : (Jvm.Cond.methodLink "SpillForgeModel" (96 : Nat) ({ cls := "SpillForgeModel$Code", name := "size", desc := "()I" } : Jvm.MethodName)) ∈ gw := gw_10 160 rfl rfl
theorem wr_9_131 : (Jvm.Cond.code ({ cls := "SpillForgeModel$Code", name := "size", desc := "()I" } : Jvm.MethodName) prog_16_method_5_code (1 : Nat) (Option.some Jvm.ClassFile.FieldType.int)) ∈ gw := gw_9 131 rfl rfl
theorem wr_9_129 : (Jvm.Cond.instanceMethod ({ cls := "SpillForgeModel$Code", name := "size", desc := "()I" } : Jvm.MethodName)) ∈ gw := gw_9 129 rfl rfl
theorem wr_9_130 : (Jvm.Cond.selects "SpillForgeModel$Code" ({ cls := "SpillForgeModel$Code", name := "size", desc := "()I" } : Jvm.MethodName) ({ cls := "SpillForgeModel$Code", name := "size", desc := "()I" } : Jvm.MethodName)) ∈ gw := gw_9 130 rfl rfl
theorem dr_cX17_reached_28 : decode cX17_reached 28 = .ok (.if_icmp .ge 89, 3) := by decide +kernel
theorem dr_cX17_reached_117 : decode cX17_reached 117 = .ok (.goto (-106), 3) := by decide +kernel
theorem dr_cX17_reached_31 : decode cX17_reached 31 = .ok (.lload_n 2, 1) := by decide +kernel
theorem dr_cX17_reached_32 : decode cX17_reached 32 = .ok (.iload 5, 2) := by decide +kernel
theorem dr_cX17_reached_34 : decode cX17_reached 34 = .ok (.lushr, 1) := by decide +kernel
theorem dr_cX17_reached_35 : decode cX17_reached 35 = .ok (.lconst 1, 1) := by decide +kernel
theorem dr_cX17_reached_36 : decode cX17_reached 36 = .ok (.land, 1) := by decide +kernel
theorem dr_cX17_reached_37 : decode cX17_reached 37 = .ok (.lconst 0, 1) := by decide +kernel
theorem dr_cX17_reached_38 : decode cX17_reached 38 = .ok (.lcmp, 1) := by decide +kernel
theorem dr_cX17_reached_39 : decode cX17_reached 39 = .ok (.ifCond .ne 6, 3) := by decide +kernel
theorem dr_cX17_reached_45 : decode cX17_reached 45 = .ok (.iconst 0, 1) := by decide +kernel
theorem dr_cX17_reached_46 : decode cX17_reached 46 = .ok (.istore 6, 2) := by decide +kernel
theorem dr_cX17_reached_48 : decode cX17_reached 48 = .ok (.iload 6, 2) := by decide +kernel
theorem dr_cX17_reached_50 : decode cX17_reached 50 = .ok (.aload_n 0, 1) := by decide +kernel
theorem dr_cX17_reached_51 : decode cX17_reached 51 = .ok (.iload 5, 2) := by decide +kernel
theorem dr_cX17_reached_53 : decode cX17_reached 53 = .ok (.invokevirtual 101, 3) := by decide +kernel
theorem wr_10_161 : (Jvm.Cond.methodLink "SpillForgeModel" (101 : Nat) ({ cls := "SpillForgeModel$Code", name := "get", desc := "(I)LSpillForgeModel$Block;" } : Jvm.MethodName)) ∈ gw := gw_10 161 rfl rfl
theorem dr_cX17_reached_56 : decode cX17_reached 56 = .ok (.invokevirtual 82, 3) := by decide +kernel
theorem dr_cX17_reached_59 : decode cX17_reached 59 = .ok (.if_icmp .ge 52, 3) := by decide +kernel
theorem dr_cX17_reached_111 : decode cX17_reached 111 = .ok (.iinc 5 1, 3) := by decide +kernel
theorem dr_cX17_reached_114 : decode cX17_reached 114 = .ok (.goto (-92), 3) := by decide +kernel
theorem dr_cX17_reached_62 : decode cX17_reached 62 = .ok (.aload_n 0, 1) := by decide +kernel
theorem dr_cX17_reached_63 : decode cX17_reached 63 = .ok (.iload 5, 2) := by decide +kernel
theorem dr_cX17_reached_65 : decode cX17_reached 65 = .ok (.invokevirtual 101, 3) := by decide +kernel
theorem dr_cX17_reached_68 : decode cX17_reached 68 = .ok (.iload 6, 2) := by decide +kernel
theorem dr_cX17_reached_70 : decode cX17_reached 70 = .ok (.invokevirtual 92, 3) := by decide +kernel
theorem dr_cX17_reached_73 : decode cX17_reached 73 = .ok (.istore 7, 2) := by decide +kernel
theorem dr_cX17_reached_75 : decode cX17_reached 75 = .ok (.iload 7, 2) := by decide +kernel
theorem dr_cX17_reached_77 : decode cX17_reached 77 = .ok (.iload_n 1, 1) := by decide +kernel
theorem dr_cX17_reached_78 : decode cX17_reached 78 = .ok (.if_icmp .eq 27, 3) := by decide +kernel
theorem dr_cX17_reached_105 : decode cX17_reached 105 = .ok (.iinc 6 1, 3) := by decide +kernel
theorem dr_cX17_reached_108 : decode cX17_reached 108 = .ok (.goto (-60), 3) := by decide +kernel
theorem dr_cX17_reached_81 : decode cX17_reached 81 = .ok (.lload_n 2, 1) := by decide +kernel
theorem dr_cX17_reached_82 : decode cX17_reached 82 = .ok (.iload 7, 2) := by decide +kernel
theorem dr_cX17_reached_84 : decode cX17_reached 84 = .ok (.lushr, 1) := by decide +kernel
theorem dr_cX17_reached_85 : decode cX17_reached 85 = .ok (.lconst 1, 1) := by decide +kernel
theorem dr_cX17_reached_86 : decode cX17_reached 86 = .ok (.land, 1) := by decide +kernel
theorem dr_cX17_reached_87 : decode cX17_reached 87 = .ok (.lconst 0, 1) := by decide +kernel
theorem dr_cX17_reached_88 : decode cX17_reached 88 = .ok (.lcmp, 1) := by decide +kernel
theorem dr_cX17_reached_89 : decode cX17_reached 89 = .ok (.ifCond .eq 6, 3) := by decide +kernel
theorem dr_cX17_reached_95 : decode cX17_reached 95 = .ok (.lload_n 2, 1) := by decide +kernel
theorem dr_cX17_reached_96 : decode cX17_reached 96 = .ok (.lconst 1, 1) := by decide +kernel
theorem dr_cX17_reached_97 : decode cX17_reached 97 = .ok (.iload 7, 2) := by decide +kernel
theorem dr_cX17_reached_99 : decode cX17_reached 99 = .ok (.lshl, 1) := by decide +kernel
theorem dr_cX17_reached_100 : decode cX17_reached 100 = .ok (.lor, 1) := by decide +kernel
theorem dr_cX17_reached_101 : decode cX17_reached 101 = .ok (.lstore_n 2, 1) := by decide +kernel
theorem dr_cX17_reached_102 : decode cX17_reached 102 = .ok (.iconst 1, 1) := by decide +kernel
theorem dr_cX17_reached_103 : decode cX17_reached 103 = .ok (.istore 4, 2) := by decide +kernel
theorem dr_cX17_reached_92 : decode cX17_reached 92 = .ok (.goto 13, 3) := by decide +kernel
theorem dr_cX17_reached_42 : decode cX17_reached 42 = .ok (.goto 69, 3) := by decide +kernel
theorem dr_cX17_reached_4 : decode cX17_reached 4 = .ok (.lconst 0, 1) := by decide +kernel
theorem dr_cX17_reached_5 : decode cX17_reached 5 = .ok (.lreturn, 1) := by decide +kernel
theorem dr_cX17_mayMerge_0 : decode cX17_mayMerge 0 = .ok (.iload_n 1, 1) := by decide +kernel
theorem dr_cX17_mayMerge_1 : decode cX17_mayMerge 1 = .ok (.bipush 100, 2) := by decide +kernel
theorem dr_cX17_mayMerge_3 : decode cX17_mayMerge 3 = .ok (.if_icmp .ge 22, 3) := by decide +kernel
theorem dr_cX17_mayMerge_25 : decode cX17_mayMerge 25 = .ok (.iconst 0, 1) := by decide +kernel
theorem dr_cX17_mayMerge_26 : decode cX17_mayMerge 26 = .ok (.ireturn, 1) := by decide +kernel
theorem dr_cX17_mayMerge_6 : decode cX17_mayMerge 6 = .ok (.iload_n 2, 1) := by decide +kernel
theorem dr_cX17_mayMerge_7 : decode cX17_mayMerge 7 = .ok (.bipush 100, 2) := by decide +kernel
theorem dr_cX17_mayMerge_9 : decode cX17_mayMerge 9 = .ok (.if_icmp .ge 16, 3) := by decide +kernel
theorem dr_cX17_mayMerge_12 : decode cX17_mayMerge 12 = .ok (.aload_n 0, 1) := by decide +kernel
theorem dr_cX17_mayMerge_13 : decode cX17_mayMerge 13 = .ok (.getfield 135, 3) := by decide +kernel
theorem wr_7_75 : (Jvm.Cond.fieldLink "SpillForgeModel" (135 : Nat) "SpillForgeModel" "joined" "[[J") ∈ gw := gw_7 75 rfl rfl
theorem dr_cX17_mayMerge_16 : decode cX17_mayMerge 16 = .ok (.iload_n 1, 1) := by decide +kernel
theorem dr_cX17_mayMerge_17 : decode cX17_mayMerge 17 = .ok (.aaload, 1) := by decide +kernel
theorem dr_cX17_mayMerge_18 : decode cX17_mayMerge 18 = .ok (.iload_n 2, 1) := by decide +kernel
theorem dr_cX17_mayMerge_19 : decode cX17_mayMerge 19 = .ok (.invokestatic 145, 3) := by decide +kernel
theorem wr_10_203 : (Jvm.Cond.methodLink "SpillForgeModel" (145 : Nat) ({ cls := "SpillForgeModel", name := "has", desc := "([JI)Z" } : Jvm.MethodName)) ∈ gw := gw_10 203 rfl rfl
theorem wr_10_205 : (Jvm.Cond.code ({ cls := "SpillForgeModel", name := "has", desc := "([JI)Z" } : Jvm.MethodName) prog_14_method_2_code (2 : Nat) (Option.some Jvm.ClassFile.FieldType.boolean)) ∈ gw := gw_10 205 rfl rfl
theorem wr_10_204 : (Jvm.Cond.static ({ cls := "SpillForgeModel", name := "has", desc := "([JI)Z" } : Jvm.MethodName)) ∈ gw := gw_10 204 rfl rfl
theorem dr_cX17_mayMerge_22 : decode cX17_mayMerge 22 = .ok (.ifCond .eq 5, 3) := by decide +kernel
theorem dr_cX17_mayMerge_27 : decode cX17_mayMerge 27 = .ok (.iconst 0, 1) := by decide +kernel
theorem dr_cX17_mayMerge_28 : decode cX17_mayMerge 28 = .ok (.istore 4, 2) := by decide +kernel
theorem dr_cX17_mayMerge_30 : decode cX17_mayMerge 30 = .ok (.iconst 0, 1) := by decide +kernel
theorem dr_cX17_mayMerge_31 : decode cX17_mayMerge 31 = .ok (.istore 5, 2) := by decide +kernel
theorem dr_cX17_mayMerge_33 : decode cX17_mayMerge 33 = .ok (.iload 5, 2) := by decide +kernel
theorem dr_cX17_mayMerge_35 : decode cX17_mayMerge 35 = .ok (.sipush 2000, 3) := by decide +kernel
theorem dr_cX17_mayMerge_38 : decode cX17_mayMerge 38 = .ok (.if_icmp .ge 88, 3) := by decide +kernel
theorem dr_cX17_mayMerge_126 : decode cX17_mayMerge 126 = .ok (.iload 4, 2) := by decide +kernel
theorem dr_cX17_mayMerge_128 : decode cX17_mayMerge 128 = .ok (.iload_n 3, 1) := by decide +kernel
theorem dr_cX17_mayMerge_129 : decode cX17_mayMerge 129 = .ok (.if_icmp .ge 7, 3) := by decide +kernel
theorem dr_cX17_mayMerge_136 : decode cX17_mayMerge 136 = .ok (.iconst 0, 1) := by decide +kernel
theorem dr_cX17_mayMerge_137 : decode cX17_mayMerge 137 = .ok (.ireturn, 1) := by decide +kernel
theorem dr_cX17_mayMerge_132 : decode cX17_mayMerge 132 = .ok (.iconst 1, 1) := by decide +kernel
theorem dr_cX17_mayMerge_133 : decode cX17_mayMerge 133 = .ok (.goto 4, 3) := by decide +kernel
theorem dr_cX17_mayMerge_41 : decode cX17_mayMerge 41 = .ok (.aload_n 0, 1) := by decide +kernel
theorem dr_cX17_mayMerge_42 : decode cX17_mayMerge 42 = .ok (.getfield 135, 3) := by decide +kernel
theorem dr_cX17_mayMerge_45 : decode cX17_mayMerge 45 = .ok (.iload_n 1, 1) := by decide +kernel
theorem dr_cX17_mayMerge_46 : decode cX17_mayMerge 46 = .ok (.aaload, 1) := by decide +kernel
theorem dr_cX17_mayMerge_47 : decode cX17_mayMerge 47 = .ok (.iload 5, 2) := by decide +kernel
theorem dr_cX17_mayMerge_49 : decode cX17_mayMerge 49 = .ok (.invokestatic 145, 3) := by decide +kernel
theorem dr_cX17_mayMerge_52 : decode cX17_mayMerge 52 = .ok (.istore 6, 2) := by decide +kernel
theorem dr_cX17_mayMerge_54 : decode cX17_mayMerge 54 = .ok (.aload_n 0, 1) := by decide +kernel
theorem dr_cX17_mayMerge_55 : decode cX17_mayMerge 55 = .ok (.getfield 135, 3) := by decide +kernel
theorem dr_cX17_mayMerge_58 : decode cX17_mayMerge 58 = .ok (.iload_n 2, 1) := by decide +kernel
theorem dr_cX17_mayMerge_59 : decode cX17_mayMerge 59 = .ok (.aaload, 1) := by decide +kernel
theorem dr_cX17_mayMerge_60 : decode cX17_mayMerge 60 = .ok (.iload 5, 2) := by decide +kernel
theorem dr_cX17_mayMerge_62 : decode cX17_mayMerge 62 = .ok (.invokestatic 145, 3) := by decide +kernel
theorem dr_cX17_mayMerge_65 : decode cX17_mayMerge 65 = .ok (.istore 7, 2) := by decide +kernel
theorem dr_cX17_mayMerge_67 : decode cX17_mayMerge 67 = .ok (.iload 6, 2) := by decide +kernel
theorem dr_cX17_mayMerge_69 : decode cX17_mayMerge 69 = .ok (.ifCond .ne 11, 3) := by decide +kernel
theorem dr_cX17_mayMerge_72 : decode cX17_mayMerge 72 = .ok (.iload 7, 2) := by decide +kernel
theorem dr_cX17_mayMerge_74 : decode cX17_mayMerge 74 = .ok (.ifCond .ne 6, 3) := by decide +kernel
theorem dr_cX17_mayMerge_77 : decode cX17_mayMerge 77 = .ok (.goto 43, 3) := by decide +kernel
theorem dr_cX17_mayMerge_120 : decode cX17_mayMerge 120 = .ok (.iinc 5 1, 3) := by decide +kernel
theorem dr_cX17_mayMerge_123 : decode cX17_mayMerge 123 = .ok (.goto (-90), 3) := by decide +kernel
theorem dr_cX17_mayMerge_80 : decode cX17_mayMerge 80 = .ok (.iload 4, 2) := by decide +kernel
theorem dr_cX17_mayMerge_82 : decode cX17_mayMerge 82 = .ok (.aload_n 0, 1) := by decide +kernel
theorem dr_cX17_mayMerge_83 : decode cX17_mayMerge 83 = .ok (.getfield 135, 3) := by decide +kernel
theorem dr_cX17_mayMerge_86 : decode cX17_mayMerge 86 = .ok (.iload 5, 2) := by decide +kernel
theorem dr_cX17_mayMerge_88 : decode cX17_mayMerge 88 = .ok (.aaload, 1) := by decide +kernel
theorem dr_cX17_mayMerge_89 : decode cX17_mayMerge 89 = .ok (.invokestatic 202, 3) := by decide +kernel
theorem wr_11_16 : (Jvm.Cond.methodLink "SpillForgeModel" (202 : Nat) ({ cls := "SpillForgeModel", name := "count", desc := "([J)I" } : Jvm.MethodName)) ∈ gw := gw_11 16 rfl rfl
theorem wr_11_18 : (Jvm.Cond.code ({ cls := "SpillForgeModel", name := "count", desc := "([J)I" } : Jvm.MethodName) prog_14_method_5_code (3 : Nat) (Option.some Jvm.ClassFile.FieldType.int)) ∈ gw := gw_11 18 rfl rfl
theorem wr_11_17 : (Jvm.Cond.static ({ cls := "SpillForgeModel", name := "count", desc := "([J)I" } : Jvm.MethodName)) ∈ gw := gw_11 17 rfl rfl
theorem dr_cX17_mayMerge_92 : decode cX17_mayMerge 92 = .ok (.iload 6, 2) := by decide +kernel
theorem dr_cX17_mayMerge_94 : decode cX17_mayMerge 94 = .ok (.ifCond .eq 12, 3) := by decide +kernel
theorem dr_cX17_mayMerge_106 : decode cX17_mayMerge 106 = .ok (.iconst 0, 1) := by decide +kernel
theorem dr_cX17_mayMerge_107 : decode cX17_mayMerge 107 = .ok (.isub, 1) := by decide +kernel
theorem dr_cX17_mayMerge_108 : decode cX17_mayMerge 108 = .ok (.iload_n 3, 1) := by decide +kernel
theorem dr_cX17_mayMerge_109 : decode cX17_mayMerge 109 = .ok (.if_icmp .lt 7, 3) := by decide +kernel
theorem dr_cX17_mayMerge_116 : decode cX17_mayMerge 116 = .ok (.iconst 0, 1) := by decide +kernel
theorem dr_cX17_mayMerge_117 : decode cX17_mayMerge 117 = .ok (.iadd, 1) := by decide +kernel
theorem dr_cX17_mayMerge_118 : decode cX17_mayMerge 118 = .ok (.istore 4, 2) := by decide +kernel
theorem dr_cX17_mayMerge_112 : decode cX17_mayMerge 112 = .ok (.iconst 1, 1) := by decide +kernel
theorem dr_cX17_mayMerge_113 : decode cX17_mayMerge 113 = .ok (.goto 4, 3) := by decide +kernel
theorem dr_cX17_mayMerge_97 : decode cX17_mayMerge 97 = .ok (.iload 7, 2) := by decide +kernel
theorem dr_cX17_mayMerge_99 : decode cX17_mayMerge 99 = .ok (.ifCond .eq 7, 3) := by decide +kernel
theorem dr_cX17_mayMerge_102 : decode cX17_mayMerge 102 = .ok (.iconst 1, 1) := by decide +kernel
theorem dr_cX17_mayMerge_103 : decode cX17_mayMerge 103 = .ok (.goto 4, 3) := by decide +kernel
def pp_12780_Code_size (D : va_G) (I : FieldType → ClassId) (P12773 : List Nat) (F12774 : Nat → va_E) (q12775 : Nat) (qo12776 : Nat) (qo12777 : Nat) (p12778 : Int32) (p12779 : Int32) : Option Value → va_W → Nat → Nat → Prop := fun r w dc ds => r = some (.int p12779) ∧ w = va_pl P12773 F12774 ∧ dc ≤ 0 ∧ ds ≤ 0
set_option maxRecDepth 100000 in
set_option maxHeartbeats 4000000 in
theorem cp_12780_Code_size (l : Launch) (hl0 : l.stackTraces = false) (D : va_G) (I : FieldType → ClassId) (P12773 : List Nat) (F12774 : Nat → va_E) (q12775 : Nat) (qo12776 : Nat) (qo12777 : Nat) (p12778 : Int32) (p12779 : Int32) (hmq12775 : q12775 ∈ P12773) (heq12775 : F12774 q12775 = .inr (18, [.ref qo12776, .ref qo12777, .int p12778, .int p12779])) : CtA (gV D I) l yX13_size cX13_size 1 (some FieldType.int) 0 0 0 0 [.ref q12775] (va_pl P12773 F12774) (pp_12780_Code_size D I P12773 F12774 q12775 qo12776 qo12777 p12778 p12779) gNA := by
  refine CtA_of hl0 (by decide) (Nat.le_of_ble_eq_true rfl) ?_
  have bp12778 := gB_any p12778
  have bp12779 := gB_any p12779
  refine G_aload_n 0 dr_cX13_size_0 rfl ?_
  refine Gp_get 3 hmq12775 heq12775 dr_cX13_size_1 (gk_X13 D I) (Nat.le_of_ble_eq_true rfl) wr_7_33 rfl ?_
  exact G_iretA dr_cX13_size_4 rfl (Nat.le_of_ble_eq_true rfl) (Nat.le_of_ble_eq_true rfl) ⟨rfl, rfl, (Nat.le_of_ble_eq_true rfl), (Nat.le_of_ble_eq_true rfl)⟩
/- tl_RModel_reached_48: l6, l4, l2; out: l4, l2 -/
def tl_RModel_reached_48 (D : va_G) (I : FieldType → ClassId) (γ el : Nat → Nat → Nat) (l2_1 : Int64) (F : Nat → va_E) (q0 : Nat) (l5_2 : Int32) (a1 : Int32) (s1 : Int32) (s2 : Int32) (s3 : Int64) (k : Nat) (e1 : Int32) (e2 : Int64) : Prop := ∀ R : (Int32) → (Int32) → (Int64) → Nat → (Int32) → (Int64) → Prop,
  (∀ (l6_3 : Int32) (l4_3 : Int32) (l2_3 : Int64) (x1 : Nat) (x2 : Nat) (x3 : Int32) (x4 : Int32) (x5 : Int32) (x6 : Nat) (x7 : Int32) (x8 : Int32), gB l6_3 0 2 → gB l4_3 0 1 → rpop l2_3 ≤ 64 → rpop l2_1 + ((l4_3.toInt : Int)).toNat ≤ rpop l2_3 → fR (F q0) 0 = x1 → x2 = el x1 l5_2.toInt.toNat → fI (F x1) 2 = x3 → tr_RCode_get l5_2 x3 → fI (F x2) 2 = x4 → fI (F x2) 3 = x5 → fR (F x2) 1 = x6 → fI (F x6) 0 = x7 → gB x8 0 2 → tr_RBlock_ways x4 x5 x7 x8 → x8.toInt ≤ l6_3.toInt → R l6_3 l4_3 l2_3 111 l4_3 l2_3) →
  (∀ (l6_3 : Int32) (l4_3 : Int32) (l2_3 : Int64) (x1 : Nat) (x2 : Nat) (x3 : Int32) (x4 : Int32) (x5 : Int32) (x6 : Nat) (x7 : Int32) (x8 : Int32) (x9 : Int32) (x10 : Int32) (k : Nat) (e1 : Int32) (e2 : Int64), gB l6_3 0 2 → gB l4_3 0 1 → rpop l2_3 ≤ 64 → rpop l2_1 + ((l4_3.toInt : Int)).toNat ≤ rpop l2_3 → fR (F q0) 0 = x1 → x2 = el x1 l5_2.toInt.toNat → fI (F x1) 2 = x3 → tr_RCode_get l5_2 x3 → fI (F x2) 2 = x4 → fI (F x2) 3 = x5 → fR (F x2) 1 = x6 → fI (F x6) 0 = x7 → gB x8 0 2 → tr_RBlock_ways x4 x5 x7 x8 → l6_3.toInt < x8.toInt → tr_RCode_get l5_2 x3 → gB x9 0 39 → tr_RBlock_way2 l6_3 x4 x5 x9 → x9.toInt = a1.toInt → x10.toInt = l6_3.toInt + 1 → R x10 l4_3 l2_3 k e1 e2 → R l6_3 l4_3 l2_3 k e1 e2) →
  (∀ (l6_3 : Int32) (l4_3 : Int32) (l2_3 : Int64) (x1 : Nat) (x2 : Nat) (x3 : Int32) (x4 : Int32) (x5 : Int32) (x6 : Nat) (x7 : Int32) (x8 : Int32) (x9 : Int32) (x10 : Int64) (x11 : Int64) (x12 : Int64) (x13 : Int64) (x14 : Int32) (k : Nat) (e1 : Int32) (e2 : Int64), gB l6_3 0 2 → gB l4_3 0 1 → rpop l2_3 ≤ 64 → rpop l2_1 + ((l4_3.toInt : Int)).toNat ≤ rpop l2_3 → fR (F q0) 0 = x1 → x2 = el x1 l5_2.toInt.toNat → fI (F x1) 2 = x3 → tr_RCode_get l5_2 x3 → fI (F x2) 2 = x4 → fI (F x2) 3 = x5 → fR (F x2) 1 = x6 → fI (F x6) 0 = x7 → gB x8 0 2 → tr_RBlock_ways x4 x5 x7 x8 → l6_3.toInt < x8.toInt → tr_RCode_get l5_2 x3 → gB x9 0 39 → tr_RBlock_way2 l6_3 x4 x5 x9 → x9.toInt ≠ a1.toInt → x10 = (l2_3.toUInt64 >>> (x9.toInt64.toUInt64 &&& Int64.toUInt64 63)).toInt64 → x11 = x10 &&& (1 : Int64) → x11 = (0 : Int64) → x12 = (1 : Int64) <<< (x9.toInt64 &&& 63) → x13 = l2_3 ||| x12 → x14.toInt = l6_3.toInt + 1 → R x14 (1 : Int32) x13 k e1 e2 → R l6_3 l4_3 l2_3 k e1 e2) →
  (∀ (l6_3 : Int32) (l4_3 : Int32) (l2_3 : Int64) (x1 : Nat) (x2 : Nat) (x3 : Int32) (x4 : Int32) (x5 : Int32) (x6 : Nat) (x7 : Int32) (x8 : Int32) (x9 : Int32) (x10 : Int64) (x11 : Int64) (x12 : Int32) (k : Nat) (e1 : Int32) (e2 : Int64), gB l6_3 0 2 → gB l4_3 0 1 → rpop l2_3 ≤ 64 → rpop l2_1 + ((l4_3.toInt : Int)).toNat ≤ rpop l2_3 → fR (F q0) 0 = x1 → x2 = el x1 l5_2.toInt.toNat → fI (F x1) 2 = x3 → tr_RCode_get l5_2 x3 → fI (F x2) 2 = x4 → fI (F x2) 3 = x5 → fR (F x2) 1 = x6 → fI (F x6) 0 = x7 → gB x8 0 2 → tr_RBlock_ways x4 x5 x7 x8 → l6_3.toInt < x8.toInt → tr_RCode_get l5_2 x3 → gB x9 0 39 → tr_RBlock_way2 l6_3 x4 x5 x9 → x9.toInt ≠ a1.toInt → x10 = (l2_3.toUInt64 >>> (x9.toInt64.toUInt64 &&& Int64.toUInt64 63)).toInt64 → x11 = x10 &&& (1 : Int64) → (¬ x11 = (0 : Int64)) → x12.toInt = l6_3.toInt + 1 → R x12 l4_3 l2_3 k e1 e2 → R l6_3 l4_3 l2_3 k e1 e2) →
  R s1 s2 s3 k e1 e2
/- tl_RModel_reached_22: l5, l4, l2; out: l4, l2 -/
def tl_RModel_reached_22 (D : va_G) (I : FieldType → ClassId) (γ el : Nat → Nat → Nat) (l2_1 : Int64) (F : Nat → va_E) (q0 : Nat) (a1 : Int32) (s1 : Int32) (s2 : Int32) (s3 : Int64) (k : Nat) (e1 : Int32) (e2 : Int64) : Prop := ∀ R : (Int32) → (Int32) → (Int64) → Nat → (Int32) → (Int64) → Prop,
  (∀ (l5_2 : Int32) (l4_2 : Int32) (l2_2 : Int64) (x1 : Int32), gB l5_2 0 1000000 → gB l4_2 0 1 → rpop l2_2 ≤ 64 → rpop l2_1 + ((l4_2.toInt : Int)).toNat ≤ rpop l2_2 → fI (F q0) 3 = x1 → x1.toInt ≤ l5_2.toInt → R l5_2 l4_2 l2_2 117 l4_2 l2_2) →
  (∀ (l5_2 : Int32) (l4_2 : Int32) (l2_2 : Int64) (x1 : Int32) (x2 : Int64) (x3 : Int64) (x4 : Int32) (x5 : Int64) (x6 : Int32) (k : Nat) (e1 : Int32) (e2 : Int64), gB l5_2 0 1000000 → gB l4_2 0 1 → rpop l2_2 ≤ 64 → rpop l2_1 + ((l4_2.toInt : Int)).toNat ≤ rpop l2_2 → fI (F q0) 3 = x1 → l5_2.toInt < x1.toInt → x2 = (l2_2.toUInt64 >>> (l5_2.toInt64.toUInt64 &&& Int64.toUInt64 63)).toInt64 → x3 = x2 &&& (1 : Int64) → (¬ x3 = (0 : Int64)) → tl_RModel_reached_48 D I γ el l2_1 F q0 l5_2 a1 (0 : Int32) l4_2 l2_2 111 x4 x5 → x6.toInt = l5_2.toInt + 1 → R x6 x4 x5 k e1 e2 → R l5_2 l4_2 l2_2 k e1 e2) →
  (∀ (l5_2 : Int32) (l4_2 : Int32) (l2_2 : Int64) (x1 : Int32) (x2 : Int64) (x3 : Int64) (x4 : Int32) (k : Nat) (e1 : Int32) (e2 : Int64), gB l5_2 0 1000000 → gB l4_2 0 1 → rpop l2_2 ≤ 64 → rpop l2_1 + ((l4_2.toInt : Int)).toNat ≤ rpop l2_2 → fI (F q0) 3 = x1 → l5_2.toInt < x1.toInt → x2 = (l2_2.toUInt64 >>> (l5_2.toInt64.toUInt64 &&& Int64.toUInt64 63)).toInt64 → x3 = x2 &&& (1 : Int64) → x3 = (0 : Int64) → x4.toInt = l5_2.toInt + 1 → R x4 l4_2 l2_2 k e1 e2 → R l5_2 l4_2 l2_2 k e1 e2) →
  R s1 s2 s3 k e1 e2
/- tl_RModel_reached_11: l4, l2; out: l2 -/
def tl_RModel_reached_11 (D : va_G) (I : FieldType → ClassId) (γ el : Nat → Nat → Nat) (F : Nat → va_E) (q0 : Nat) (a1 : Int32) (s1 : Int32) (s2 : Int64) (k : Nat) (e1 : Int64) : Prop := ∀ R : (Int32) → (Int64) → Nat → (Int64) → Prop,
  (∀ (l4_1 : Int32) (l2_1 : Int64), gB l4_1 0 1 → rpop l2_1 ≤ 64 → l4_1.toInt = 0 → R l4_1 l2_1 120 l2_1) →
  (∀ (l4_1 : Int32) (l2_1 : Int64) (x1 : Int32) (x2 : Int64) (k : Nat) (e1 : Int64), gB l4_1 0 1 → rpop l2_1 ≤ 64 → l4_1.toInt ≠ 0 → tl_RModel_reached_22 D I γ el l2_1 F q0 a1 (0 : Int32) (0 : Int32) l2_1 117 x1 x2 → R x1 x2 k e1 → R l4_1 l2_1 k e1) →
  R s1 s2 k e1
/- tr_RModel_reached: result -/
def tr_RModel_reached (D : va_G) (I : FieldType → ClassId) (γ el : Nat → Nat → Nat) (F : Nat → va_E) (q0 : Nat) (a1 : Int32) (o1 : Int64) : Prop := ∀ R : (Int64) → Prop,
  (∀ (x1 : Int64), a1.toInt ≠ 0 → tl_RModel_reached_11 D I γ el F q0 a1 (1 : Int32) (1 : Int64) 120 x1 → R x1) →
  (a1.toInt = 0 → R (0 : Int64)) →
  R o1
abbrev ky_12748_SpillForgeModel_reached : gKey := (cX17_reached, 8, "SpillForgeModel", (some FieldType.long), [], "reached", fun _ _ => True)
def pt_12748_SpillForgeModel_reached (D : va_G) (I : FieldType → ClassId) (γ el : Nat → Nat → Nat) (P12743 : List Nat) (F12744 : Nat → va_E) (q12745 : Nat) (p12746 : Int32) : Option Value → va_W → Nat → Nat → Prop := fun r w dc ds => ∃ (ol16499 : Int64), r = some (.long ol16499) ∧ w = va_pl P12743 F12744 ∧ dc ≤ 0 ∧ ds ≤ 0 ∧ tr_RModel_reached D I γ el F12744 q12745 p12746 ol16499
set_option maxRecDepth 100000 in
set_option maxHeartbeats 4000000 in
theorem ct_12748_SpillForgeModel_reached (l : Launch) (hl0 : l.stackTraces = false) (D : va_G) (I : FieldType → ClassId) (γ el : Nat → Nat → Nat) (P12743 : List Nat) (F12744 : Nat → va_E) (q12745 : Nat) (p12746 : Int32) (hT : RS D I P12743 F12744 γ el) (htq12745 : rKd γ q12745 9) (x12747 : 0 < γ 6 (γ 1 q12745)) : CtA (gV D I) l yX17_reached cX17_reached 8 (some FieldType.long) 4 85 0 0 [.ref q12745, .int p12746] (va_pl P12743 F12744) (pt_12748_SpillForgeModel_reached D I γ el P12743 F12744 q12745 p12746) gNA := by
  refine CtA_of hl0 (by decide) (Nat.le_of_ble_eq_true rfl) ?_
  have bp12746 := gB_any p12746
  refine G_iload_n 1 dr_cX17_reached_0 rfl ?_
  refine G_if_ne 6 dr_cX17_reached_1 (by decide +kernel) (fun hc12749 => ?_) (fun hc12749 => ?_)
  · have r12750 : p12746.toInt ≠ 0 := gj_neq hc12749 (show Int32.toInt 0 = 0 by decide)
    refine G_lconst 1 dr_cX17_reached_6 rfl ?_
    refine G_lstore_n (L' := [(2, .long 1), (0, .ref q12745), (1, .int p12746)]) dr_cX17_reached_7 (Nat.le_of_ble_eq_true rfl) rfl ?_
    refine G_iconst 1 dr_cX17_reached_8 (by decide +kernel) ?_
    refine G_istore (L' := [(4, .int 1), (2, .long 1), (0, .ref q12745), (1, .int p12746)]) dr_cX17_reached_9 (Nat.le_of_ble_eq_true rfl) rfl ?_
    have hlp11_15978 : ∀ (n11_15978 : Nat) (g15976 : Int32) (gl15977 : Int64), gB g15976 0 1 → rpop gl15977 ≤ 64 → (∀ (k : Nat) (e1 : Int64), tl_RModel_reached_11 D I γ el F12744 q12745 p12746 g15976 gl15977 k e1 → tl_RModel_reached_11 D I γ el F12744 q12745 p12746 (1 : Int32) (1 : Int64) k e1) → (64 - rpop gl15977) + ((g15976.toInt : Int)).toNat < n11_15978 → G (gV D I) l (gRm 4 85 0 0) (gMA (gV D I) (pt_12748_SpillForgeModel_reached D I γ el P12743 F12744 q12745 p12746) gNA 0 0) ky_12748_SpillForgeModel_reached 11 [(4, .int g15976), (2, .long gl15977), (0, .ref q12745), (1, .int p12746)] [] (va_pl P12743 F12744) 0 0 := by
      intro n11_15978
      induction n11_15978 with
      | zero => intro g15976 gl15977 bg15976 x15978 kt11_15979 hm11_15978; exact absurd hm11_15978 (Nat.not_lt_zero _)
      | succ n11_15978 ih11_15978 =>
        intro g15976 gl15977 bg15976 x15978 kt11_15979 hm11_15978
        refine G_iload 0 dr_cX17_reached_11 rfl ?_
        refine G_if_eq 120 dr_cX17_reached_13 (by decide +kernel) (fun hc15980 => ?_) (fun hc15980 => ?_)
        · have r15981 : g15976.toInt = 0 := gj_eq hc15980 (show Int32.toInt 0 = 0 by decide)
          have bg15976' : gB g15976 0 0 := ⟨by omega, by omega⟩
          have hx15982 : tl_RModel_reached_11 D I γ el F12744 q12745 p12746 (1 : Int32) (1 : Int64) 120 gl15977 := kt11_15979 120 gl15977 (fun R c1 c2 => c1 g15976 gl15977 bg15976 x15978 r15981)
          refine G_lload_n 1 dr_cX17_reached_120 rfl ?_
          exact G_lretA dr_cX17_reached_121 rfl (Nat.le_of_ble_eq_true rfl) (Nat.le_of_ble_eq_true rfl) ⟨gl15977, rfl, rfl, (Nat.le_of_ble_eq_true rfl), (Nat.le_of_ble_eq_true rfl), (fun R c1 c2 => c1 gl15977 r12750 hx15982)⟩
        · have r15983 : g15976.toInt ≠ 0 := gj_neq hc15980 (show Int32.toInt 0 = 0 by decide)
          have bg15976' : gB g15976 1 1 := ⟨by omega, by omega⟩
          refine G_iconst 0 dr_cX17_reached_16 (by decide +kernel) ?_
          refine G_istore (L' := [(4, .int 0), (2, .long gl15977), (0, .ref q12745), (1, .int p12746)]) dr_cX17_reached_17 (Nat.le_of_ble_eq_true rfl) rfl ?_
          refine G_iconst 0 dr_cX17_reached_19 (by decide +kernel) ?_
          refine G_istore (L' := [(5, .int 0), (4, .int 0), (2, .long gl15977), (0, .ref q12745), (1, .int p12746)]) dr_cX17_reached_20 (Nat.le_of_ble_eq_true rfl) rfl ?_
          have hlp22_16239 : ∀ (n22_16239 : Nat) (g16235 : Int32) (g16236 : Int32) (gl16237 : Int64), gB g16235 0 1000000 → gB g16236 0 1 → rpop gl16237 ≤ 64 → rpop gl15977 + ((g16236.toInt : Int)).toNat ≤ rpop gl16237 → (∀ (k : Nat) (e1 : Int32) (e2 : Int64), tl_RModel_reached_22 D I γ el gl15977 F12744 q12745 p12746 g16235 g16236 gl16237 k e1 e2 → tl_RModel_reached_22 D I γ el gl15977 F12744 q12745 p12746 (0 : Int32) (0 : Int32) gl15977 k e1 e2) → ((1000001 : Int) - g16235.toInt).toNat < n22_16239 → G (gV D I) l (gRm 4 85 0 0) (gMA (gV D I) (pt_12748_SpillForgeModel_reached D I γ el P12743 F12744 q12745 p12746) gNA 0 0) ky_12748_SpillForgeModel_reached 22 [(5, .int g16235), (4, .int g16236), (2, .long gl16237), (0, .ref q12745), (1, .int p12746)] [] (va_pl P12743 F12744) 0 0 := by
            intro n22_16239
            induction n22_16239 with
            | zero => intro g16235 g16236 gl16237 bg16235 bg16236 x16238 x16239 kt22_16240 hm22_16239; exact absurd hm22_16239 (Nat.not_lt_zero _)
            | succ n22_16239 ih22_16239 =>
              intro g16235 g16236 gl16237 bg16235 bg16236 x16238 x16239 kt22_16240 hm22_16239
              refine G_iload 0 dr_cX17_reached_22 rfl ?_
              refine G_aload_n 3 dr_cX17_reached_24 rfl ?_
              have hm16241 : q12745 ∈ P12743 := RS_m hT htq12745 (by decide)
              obtain ⟨q16243, q16244, p16245, p16246, he16242, ht16262, ht16247, ht16248, ht16249, ht16250, r16251, r16252, r16253, r16254, r16255, r16256, r16257, r16258, r16259, r16260, r16261⟩ := show rk_9 γ el q12745 (F12744 q12745) from RS_o hT htq12745
              have bp16245 : gB p16245 0 1000000 := ⟨by omega, by omega⟩
              have bp16246 : gB p16246 0 1000000 := ⟨by omega, by omega⟩
              have fq16263 : fI (F12744 q12745) 3 = p16246 := by rw [he16242]; rfl
              refine Gw_callV (As := []) (gV_ok D I) (cp_12780_Code_size l hl0 D I P12743 F12744 q12745 q16243 q16244 p16245 p16246 hm16241 he16242) dr_cX17_reached_25 ⟨wr_10_160, wr_1_15, wr_9_131, by decide, rfl, (Nat.le_of_ble_eq_true rfl), (Nat.le_of_ble_eq_true rfl)⟩ wr_9_129 wr_9_130 hm16241 he16242 rfl (show 0 + 0 ≤ 0 by first | omega | decide) (show 0 + 0 ≤ 0 by first | omega | decide) (Nat.le_of_ble_eq_true rfl) (fun r16267 w16268 dc16264 ds16265 hp16266 => ?_) (fun _ _ _ _ _ z => z.elim)
              obtain ⟨rfl, rfl, hdc, hds⟩ := hp16266
              change G _ _ _ _ _ _ _ (.int p16246 :: _) _ _ _
              refine G_widen (cs' := 0) (sl' := 0) (by omega) (by omega) ?_
              refine G_icmp_ge 117 dr_cX17_reached_28 (by decide +kernel) (fun hc16269 => ?_) (fun hc16269 => ?_)
              · have r16270 : p16246.toInt ≤ g16235.toInt := gC_le hc16269
                have hx16271 : tl_RModel_reached_22 D I γ el gl15977 F12744 q12745 p12746 (0 : Int32) (0 : Int32) gl15977 117 g16236 gl16237 := kt22_16240 117 g16236 gl16237 (fun R c1 c2 c3 => c1 g16235 g16236 gl16237 p16246 bg16235 bg16236 x16238 x16239 fq16263 r16270)
                refine G_goto 11 dr_cX17_reached_117 (by decide +kernel) ?_
                refine G_lv (L' := [(4, .int g16236), (2, .long gl16237), (0, .ref q12745), (1, .int p12746)]) [1, 2, 3, 4] rfl ?_
                exact ih11_15978 g16236 gl16237 bg16236 (rpop_le gl16237) (fun k e1 ht => kt11_15979 k e1 (fun R c1 c2 => c2 g15976 gl15977 g16236 gl16237 k e1 bg15976 x15978 r15983 hx16271 (ht R c1 c2))) (by omega)
              · have r16272 : g16235.toInt < p16246.toInt := gC_nle hc16269
                have bg16235' : gB g16235 0 999999 := ⟨by omega, by omega⟩
                have bp16246' : gB p16246 1 1000000 := ⟨by omega, by omega⟩
                refine G_lload_n 2 dr_cX17_reached_31 rfl ?_
                refine G_iload 0 dr_cX17_reached_32 rfl ?_
                refine G_lushr dr_cX17_reached_34 (G_namL fun u16273 hu16273 => ?_)
                refine G_lconst 1 dr_cX17_reached_35 rfl ?_
                refine G_land dr_cX17_reached_36 (G_namL fun u16274 hu16274 => ?_)
                refine G_lconst 0 dr_cX17_reached_37 rfl ?_
                refine G_lcmp dr_cX17_reached_38 (G_nam fun z16275 hz16275 => ?_)
                have bz16275 : gB z16275 (-1) 1 := gB_cmp hz16275
                refine G_if_ne 45 dr_cX17_reached_39 (by decide +kernel) (fun hc16276 => ?_) (fun hc16276 => ?_)
                · have r16277 : z16275.toInt ≠ 0 := gj_neq hc16276 (show Int32.toInt 0 = 0 by decide)
                  have lhc16276 := gC_cmpN hz16275 hc16276
                  refine G_iconst 0 dr_cX17_reached_45 (by decide +kernel) ?_
                  refine G_istore (L' := [(6, .int 0), (5, .int g16235), (4, .int g16236), (2, .long gl16237), (0, .ref q12745), (1, .int p12746)]) dr_cX17_reached_46 (Nat.le_of_ble_eq_true rfl) rfl ?_
                  have hlp48_16386 : ∀ (n48_16386 : Nat) (g16382 : Int32) (g16383 : Int32) (gl16384 : Int64), gB g16382 0 2 → gB g16383 0 1 → rpop gl16384 ≤ 64 → rpop gl15977 + ((g16383.toInt : Int)).toNat ≤ rpop gl16384 → (∀ (k : Nat) (e1 : Int32) (e2 : Int64), tl_RModel_reached_48 D I γ el gl15977 F12744 q12745 g16235 p12746 g16382 g16383 gl16384 k e1 e2 → tl_RModel_reached_48 D I γ el gl15977 F12744 q12745 g16235 p12746 (0 : Int32) g16236 gl16237 k e1 e2) → ((3 : Int) - g16382.toInt).toNat < n48_16386 → G (gV D I) l (gRm 4 85 0 0) (gMA (gV D I) (pt_12748_SpillForgeModel_reached D I γ el P12743 F12744 q12745 p12746) gNA 0 0) ky_12748_SpillForgeModel_reached 48 [(6, .int g16382), (5, .int g16235), (4, .int g16383), (2, .long gl16384), (0, .ref q12745), (1, .int p12746)] [] (va_pl P12743 F12744) 0 0 := by
                    intro n48_16386
                    induction n48_16386 with
                    | zero => intro g16382 g16383 gl16384 bg16382 bg16383 x16385 x16386 kt48_16387 hm48_16386; exact absurd hm48_16386 (Nat.not_lt_zero _)
                    | succ n48_16386 ih48_16386 =>
                      intro g16382 g16383 gl16384 bg16382 bg16383 x16385 x16386 kt48_16387 hm48_16386
                      refine G_iload 0 dr_cX17_reached_48 rfl ?_
                      refine G_aload_n 4 dr_cX17_reached_50 rfl ?_
                      refine G_iload 1 dr_cX17_reached_51 rfl ?_
                      have hm16388 : q16243 ∈ P12743 := RS_m hT ht16247 (by decide)
                      obtain ⟨⟨p16390, p16391, q16392, he16389, r16393, r16394, r16395, r16397⟩, r16396⟩ := show rk_4 D I γ el F12744 q16243 from RS_o hT ht16247
                      have bp16390 := gB_any p16390
                      have bp16391 : gB p16391 0 1000000 := ⟨by omega, by omega⟩
                      obtain ⟨r16398, r16399, n16406, f16407, r16400, r16401, r16402, r16403, r16404, r16405⟩ := rLC_n r16395 (by omega)
                      have hm16408 : q16392 ∈ P12743 := RS_m hT r16398 (by decide)
                      obtain ⟨q16409, hx16410⟩ : ∃ x, x = el q16243 g16235.toInt.toNat := ⟨_, rfl⟩
                      have fq16414 : fR (F12744 q12745) 0 = q16243 := by rw [he16242]; rfl
                      have hx16411 : f16407 g16235.toNatClampNeg = some q16409 := (r16404 _ (show g16235.toInt.toNat < γ 2 q16243 by omega)).trans (by rw [hx16410])
                      have ht16415 : rKd γ q16409 2 := by rw [hx16410]; exact (r16258 _ (by omega)).resolve_right (fun z => absurd z.1 (by omega))
                      have ht16416 : rFm γ q16409 q16243 := by rw [hx16410]; exact (r16396 _ (show g16235.toInt.toNat < γ 2 q16243 by omega)).2.1
                      have hm16417 : q16409 ∈ P12743 := RS_m hT ht16415 (by decide)
                      obtain ⟨q16419, q16420, p16421, p16422, he16418, ht16429, ht16423, ht16424, ht16425, ht16426, ht16427, bp16421, bp16422, r16428, r16430, r16431⟩ := show rk_2 γ q16409 (F12744 q16409) from RS_o hT ht16415
                      have fq16432 : fI (F12744 q16243) 2 = p16391 := by rw [he16389]; rfl
                      refine Gw_callV (As := [.int g16235]) (gV_ok D I) (cp_7901_Code_get l hl0 D I P12743 F12744 q12745 q16243 q16392 g16235 q16244 p16245 p16246 p16390 p16391 f16407 n16406 q16409 q16419 q16420 p16421 p16422 hm16241 hm16388 hm16408 hm16417 he16242 he16389 r16400 he16418 (gB_w bg16235' (by decide) (by decide)) (gB_w bp16391 (by decide) (by decide)) (by omega) (by omega) (by assumption) (by omega)) dr_cX17_reached_53 ⟨wr_10_161, wr_1_15, wr_10_141, by decide, rfl, (Nat.le_of_ble_eq_true rfl), (Nat.le_of_ble_eq_true rfl)⟩ wr_10_139 wr_10_140 hm16241 he16242 rfl (show 0 + 0 ≤ 0 by first | omega | decide) (show 0 + 0 ≤ 0 by first | omega | decide) (Nat.le_of_ble_eq_true rfl) (fun r16436 w16437 dc16433 ds16434 hp16435 => ?_) (fun _ _ _ _ _ z => z.elim)
                      obtain ⟨rfl, rfl, hdc, hds, ht16438⟩ := hp16435
                      change G _ _ _ _ _ _ _ (.ref q16409 :: _) _ _ _
                      refine G_widen (cs' := 0) (sl' := 0) (by omega) (by omega) ?_
                      have hm16439 : q16420 ∈ P12743 := RS_m hT ht16425 (by decide)
                      obtain ⟨p16441, p16442, p16443, p16444, p16445, p16446, p16447, he16440, bp16441, bp16442, bp16445, bp16446, bp16447, r16448, r16449, r16450, r16451, r16452⟩ := show rk_1 γ q16420 (F12744 q16420) from RS_o hT ht16425
                      have bp16443 := gB_any p16443
                      have bp16444 := gB_any p16444
                      have fq16453 : fI (F12744 q16409) 2 = p16421 := by rw [he16418]; rfl
                      have fq16454 : fI (F12744 q16409) 3 = p16422 := by rw [he16418]; rfl
                      have fq16455 : fR (F12744 q16409) 1 = q16420 := by rw [he16418]; rfl
                      have fq16456 : fI (F12744 q16420) 0 = p16441 := by rw [he16440]; rfl
                      refine Gw_callV (As := []) (gV_ok D I) (cp_1816_Block_ways l hl0 D I P12743 F12744 q16409 q16420 q16419 p16421 p16422 p16441 p16442 p16443 p16444 p16445 p16446 p16447 hm16417 hm16439 he16418 he16440 bp16421 bp16422 bp16441 bp16442 bp16445 bp16446 bp16447) dr_cX17_reached_56 ⟨wr_10_166, wr_1_38, wr_10_169, by decide, rfl, (Nat.le_of_ble_eq_true rfl), (Nat.le_of_ble_eq_true rfl)⟩ wr_10_167 wr_10_168 hm16417 he16418 rfl (show 0 + 0 ≤ 0 by first | omega | decide) (show 0 + 0 ≤ 0 by first | omega | decide) (Nat.le_of_ble_eq_true rfl) (fun r16460 w16461 dc16457 ds16458 hp16459 => ?_) (fun _ _ _ _ _ z => z.elim)
                      obtain ⟨o16462, rfl, rfl, hdc, hds, bo16462, ht16463⟩ := hp16459
                      change G _ _ _ _ _ _ _ (.int o16462 :: _) _ _ _
                      refine G_widen (cs' := 0) (sl' := 0) (by omega) (by omega) ?_
                      refine G_icmp_ge 111 dr_cX17_reached_59 (by decide +kernel) (fun hc16464 => ?_) (fun hc16464 => ?_)
                      · have r16465 : o16462.toInt ≤ g16382.toInt := gC_le hc16464
                        have hx16466 : tl_RModel_reached_48 D I γ el gl15977 F12744 q12745 g16235 p12746 (0 : Int32) g16236 gl16237 111 g16383 gl16384 := kt48_16387 111 g16383 gl16384 (fun R c1 c2 c3 c4 => c1 g16382 g16383 gl16384 q16243 q16409 p16391 p16421 p16422 q16420 p16441 o16462 bg16382 bg16383 x16385 x16386 fq16414 hx16410 fq16432 ht16438 fq16453 fq16454 fq16455 fq16456 bo16462 ht16463 r16465)
                        obtain ⟨z16467, hz16467⟩ : ∃ z : Int32, z = g16235 + Int32.ofInt 1 := ⟨_, rfl⟩
                        have ez16467 : z16467.toInt = g16235.toInt + 1 := gI_inc hz16467 (by decide) bg16235' (by decide) (by decide)
                        have bz16467 : gB z16467 1 1000000 := ⟨by omega, by omega⟩
                        refine G_iinc (L' := [(5, .int z16467), (6, .int g16382), (4, .int g16383), (2, .long gl16384), (0, .ref q12745), (1, .int p12746)]) z16467 1 dr_cX17_reached_111 rfl hz16467.symm (Nat.le_of_ble_eq_true rfl) rfl ?_
                        refine G_goto 22 dr_cX17_reached_114 (by decide +kernel) ?_
                        refine G_lv (L' := [(5, .int z16467), (4, .int g16383), (2, .long gl16384), (0, .ref q12745), (1, .int p12746)]) [0, 2, 3, 4, 5] rfl ?_
                        exact ih22_16239 z16467 g16383 gl16384 (gB_w bz16467 (by decide) (by decide)) bg16383 (rpop_le gl16384) (by omega) (fun k e1 e2 ht => kt22_16240 k e1 e2 (fun R c1 c2 c3 => c2 g16235 g16236 gl16237 p16246 u16273 u16274 g16383 gl16384 z16467 k e1 e2 bg16235 bg16236 x16238 x16239 fq16263 r16272 hu16273 hu16274 lhc16276 hx16466 ez16467 (ht R c1 c2 c3))) (by omega)
                      · have r16468 : g16382.toInt < o16462.toInt := gC_nle hc16464
                        have bg16382' : gB g16382 0 1 := ⟨by omega, by omega⟩
                        have bo16462' : gB o16462 1 2 := ⟨by omega, by omega⟩
                        refine G_aload_n 4 dr_cX17_reached_62 rfl ?_
                        refine G_iload 1 dr_cX17_reached_63 rfl ?_
                        refine Gw_callV (As := [.int g16235]) (gV_ok D I) (cp_7901_Code_get l hl0 D I P12743 F12744 q12745 q16243 q16392 g16235 q16244 p16245 p16246 p16390 p16391 f16407 n16406 q16409 q16419 q16420 p16421 p16422 hm16241 hm16388 hm16408 hm16417 he16242 he16389 r16400 he16418 (gB_w bg16235' (by decide) (by decide)) (gB_w bp16391 (by decide) (by decide)) (by omega) (by omega) (by assumption) (by omega)) dr_cX17_reached_65 ⟨wr_10_161, wr_1_15, wr_10_141, by decide, rfl, (Nat.le_of_ble_eq_true rfl), (Nat.le_of_ble_eq_true rfl)⟩ wr_10_139 wr_10_140 hm16241 he16242 rfl (show 0 + 0 ≤ 0 by first | omega | decide) (show 0 + 0 ≤ 0 by first | omega | decide) (Nat.le_of_ble_eq_true rfl) (fun r16472 w16473 dc16469 ds16470 hp16471 => ?_) (fun _ _ _ _ _ z => z.elim)
                        obtain ⟨rfl, rfl, hdc, hds, ht16474⟩ := hp16471
                        change G _ _ _ _ _ _ _ (.ref q16409 :: _) _ _ _
                        refine G_widen (cs' := 0) (sl' := 0) (by omega) (by omega) ?_
                        refine G_iload 0 dr_cX17_reached_68 rfl ?_
                        refine Gw_callV (As := [.int g16382]) (gV_ok D I) (cp_5159_Block_way l hl0 D I P12743 F12744 q16409 q16420 g16382 q16419 p16421 p16422 p16441 p16442 p16443 p16444 p16445 p16446 p16447 hm16417 hm16439 he16418 he16440 bp16421 bp16422 bp16441 bp16442 bp16445 bp16446 bp16447) dr_cX17_reached_70 ⟨wr_10_170, wr_1_38, wr_10_173, by decide, rfl, (Nat.le_of_ble_eq_true rfl), (Nat.le_of_ble_eq_true rfl)⟩ wr_10_171 wr_10_172 hm16417 he16418 rfl (show 0 + 0 ≤ 0 by first | omega | decide) (show 0 + 0 ≤ 0 by first | omega | decide) (Nat.le_of_ble_eq_true rfl) (fun r16478 w16479 dc16475 ds16476 hp16477 => ?_) (fun _ _ _ _ _ z => z.elim)
                        obtain ⟨o16480, rfl, rfl, hdc, hds, bo16480, ht16481⟩ := hp16477
                        change G _ _ _ _ _ _ _ (.int o16480 :: _) _ _ _
                        refine G_widen (cs' := 0) (sl' := 0) (by omega) (by omega) ?_
                        refine G_istore (L' := [(7, .int o16480), (6, .int g16382), (5, .int g16235), (4, .int g16383), (2, .long gl16384), (0, .ref q12745), (1, .int p12746)]) dr_cX17_reached_73 (Nat.le_of_ble_eq_true rfl) rfl ?_
                        refine G_iload 0 dr_cX17_reached_75 rfl ?_
                        refine G_iload_n 6 dr_cX17_reached_77 rfl ?_
                        refine G_icmp_eq 105 dr_cX17_reached_78 (by decide +kernel) (fun hc16482 => ?_) (fun hc16482 => ?_)
                        · have r16483 : o16480.toInt = p12746.toInt := gC_eq hc16482
                          have bp12746' : gB p12746 0 39 := ⟨by omega, by omega⟩
                          obtain ⟨z16484, hz16484⟩ : ∃ z : Int32, z = g16382 + Int32.ofInt 1 := ⟨_, rfl⟩
                          have ez16484 : z16484.toInt = g16382.toInt + 1 := gI_inc hz16484 (by decide) bg16382' (by decide) (by decide)
                          have bz16484 : gB z16484 1 2 := ⟨by omega, by omega⟩
                          refine G_iinc (L' := [(6, .int z16484), (7, .int o16480), (5, .int g16235), (4, .int g16383), (2, .long gl16384), (0, .ref q12745), (1, .int p12746)]) z16484 1 dr_cX17_reached_105 rfl hz16484.symm (Nat.le_of_ble_eq_true rfl) rfl ?_
                          refine G_goto 48 dr_cX17_reached_108 (by decide +kernel) ?_
                          refine G_lv (L' := [(6, .int z16484), (5, .int g16235), (4, .int g16383), (2, .long gl16384), (0, .ref q12745), (1, .int p12746)]) [0, 2, 3, 4, 5, 6] rfl ?_
                          exact ih48_16386 z16484 g16383 gl16384 (gB_w bz16484 (by decide) (by decide)) bg16383 (rpop_le gl16384) (by omega) (fun k e1 e2 ht => kt48_16387 k e1 e2 (fun R c1 c2 c3 c4 => c2 g16382 g16383 gl16384 q16243 q16409 p16391 p16421 p16422 q16420 p16441 o16462 o16480 z16484 k e1 e2 bg16382 bg16383 x16385 x16386 fq16414 hx16410 fq16432 ht16438 fq16453 fq16454 fq16455 fq16456 bo16462 ht16463 r16468 ht16474 bo16480 ht16481 r16483 ez16484 (ht R c1 c2 c3 c4))) (by omega)
                        · have r16485 : o16480.toInt ≠ p12746.toInt := gC_ne hc16482
                          refine G_lload_n 4 dr_cX17_reached_81 rfl ?_
                          refine G_iload 0 dr_cX17_reached_82 rfl ?_
                          refine G_lushr dr_cX17_reached_84 (G_namL fun u16486 hu16486 => ?_)
                          refine G_lconst 1 dr_cX17_reached_85 rfl ?_
                          refine G_land dr_cX17_reached_86 (G_namL fun u16487 hu16487 => ?_)
                          refine G_lconst 0 dr_cX17_reached_87 rfl ?_
                          refine G_lcmp dr_cX17_reached_88 (G_nam fun z16488 hz16488 => ?_)
                          have bz16488 : gB z16488 (-1) 1 := gB_cmp hz16488
                          refine G_if_eq 95 dr_cX17_reached_89 (by decide +kernel) (fun hc16489 => ?_) (fun hc16489 => ?_)
                          · have r16490 : z16488.toInt = 0 := gj_eq hc16489 (show Int32.toInt 0 = 0 by decide)
                            have bz16488' : gB z16488 0 0 := ⟨by omega, by omega⟩
                            have lhc16489 := gC_cmpE hz16488 hc16489
                            have zhc16489 := rbit_0 hu16486 hu16487 lhc16489 (by omega) (by omega)
                            refine G_lload_n 4 dr_cX17_reached_95 rfl ?_
                            refine G_lconst 1 dr_cX17_reached_96 rfl ?_
                            refine G_iload 0 dr_cX17_reached_97 rfl ?_
                            refine G_lshl dr_cX17_reached_99 (G_namL fun u16491 hu16491 => ?_)
                            have qu16491 : lb_Q u16491 (o16480.toInt % 64 + 1) := lb_Qshl hu16491 (by omega)
                            refine G_lor dr_cX17_reached_100 (G_namL fun u16492 hu16492 => ?_)
                            have pmu16492 : rpop gl16384 ≤ rpop u16492 := rpop_or hu16492
                            have pnu16492 : rpop gl16384 + 1 ≤ rpop u16492 := rpop_new hu16492 hu16491 (by omega) (by omega) zhc16489
                            refine G_lstore_n (L' := [(2, .long u16492), (7, .int o16480), (6, .int g16382), (5, .int g16235), (4, .int g16383), (0, .ref q12745), (1, .int p12746)]) dr_cX17_reached_101 (Nat.le_of_ble_eq_true rfl) rfl ?_
                            refine G_iconst 1 dr_cX17_reached_102 (by decide +kernel) ?_
                            refine G_istore (L' := [(4, .int 1), (2, .long u16492), (7, .int o16480), (6, .int g16382), (5, .int g16235), (0, .ref q12745), (1, .int p12746)]) dr_cX17_reached_103 (Nat.le_of_ble_eq_true rfl) rfl ?_
                            obtain ⟨z16493, hz16493⟩ : ∃ z : Int32, z = g16382 + Int32.ofInt 1 := ⟨_, rfl⟩
                            have ez16493 : z16493.toInt = g16382.toInt + 1 := gI_inc hz16493 (by decide) bg16382' (by decide) (by decide)
                            have bz16493 : gB z16493 1 2 := ⟨by omega, by omega⟩
                            refine G_iinc (L' := [(6, .int z16493), (4, .int 1), (2, .long u16492), (7, .int o16480), (5, .int g16235), (0, .ref q12745), (1, .int p12746)]) z16493 3 dr_cX17_reached_105 rfl hz16493.symm (Nat.le_of_ble_eq_true rfl) rfl ?_
                            refine G_goto 48 dr_cX17_reached_108 (by decide +kernel) ?_
                            refine G_lv (L' := [(6, .int z16493), (5, .int g16235), (4, .int 1), (2, .long u16492), (0, .ref q12745), (1, .int p12746)]) [0, 4, 1, 2, 5, 6] rfl ?_
                            exact ih48_16386 z16493 1 u16492 (gB_w bz16493 (by decide) (by decide)) (gB_w (gBl (show Int32.toInt 1 = 1 by decide)) (by decide) (by decide)) (rpop_le u16492) (by have qa0 : Int32.toInt 1 = 1 := (by decide); omega) (fun k e1 e2 ht => kt48_16387 k e1 e2 (fun R c1 c2 c3 c4 => c3 g16382 g16383 gl16384 q16243 q16409 p16391 p16421 p16422 q16420 p16441 o16462 o16480 u16486 u16487 u16491 u16492 z16493 k e1 e2 bg16382 bg16383 x16385 x16386 fq16414 hx16410 fq16432 ht16438 fq16453 fq16454 fq16455 fq16456 bo16462 ht16463 r16468 ht16474 bo16480 ht16481 r16485 hu16486 hu16487 lhc16489 hu16491 hu16492 ez16493 (ht R c1 c2 c3 c4))) (by have qa0 : Int32.toInt 1 = 1 := (by decide); omega)
                          · have r16494 : z16488.toInt ≠ 0 := gj_neq hc16489 (show Int32.toInt 0 = 0 by decide)
                            have lhc16489 := gC_cmpN hz16488 hc16489
                            refine G_goto 105 dr_cX17_reached_92 (by decide +kernel) ?_
                            obtain ⟨z16495, hz16495⟩ : ∃ z : Int32, z = g16382 + Int32.ofInt 1 := ⟨_, rfl⟩
                            have ez16495 : z16495.toInt = g16382.toInt + 1 := gI_inc hz16495 (by decide) bg16382' (by decide) (by decide)
                            have bz16495 : gB z16495 1 2 := ⟨by omega, by omega⟩
                            refine G_iinc (L' := [(6, .int z16495), (7, .int o16480), (5, .int g16235), (4, .int g16383), (2, .long gl16384), (0, .ref q12745), (1, .int p12746)]) z16495 1 dr_cX17_reached_105 rfl hz16495.symm (Nat.le_of_ble_eq_true rfl) rfl ?_
                            refine G_goto 48 dr_cX17_reached_108 (by decide +kernel) ?_
                            refine G_lv (L' := [(6, .int z16495), (5, .int g16235), (4, .int g16383), (2, .long gl16384), (0, .ref q12745), (1, .int p12746)]) [0, 2, 3, 4, 5, 6] rfl ?_
                            exact ih48_16386 z16495 g16383 gl16384 (gB_w bz16495 (by decide) (by decide)) bg16383 (rpop_le gl16384) (by omega) (fun k e1 e2 ht => kt48_16387 k e1 e2 (fun R c1 c2 c3 c4 => c4 g16382 g16383 gl16384 q16243 q16409 p16391 p16421 p16422 q16420 p16441 o16462 o16480 u16486 u16487 z16495 k e1 e2 bg16382 bg16383 x16385 x16386 fq16414 hx16410 fq16432 ht16438 fq16453 fq16454 fq16455 fq16456 bo16462 ht16463 r16468 ht16474 bo16480 ht16481 r16485 hu16486 hu16487 lhc16489 ez16495 (ht R c1 c2 c3 c4))) (by omega)
                  exact hlp48_16386 (((3 : Int) - 0).toNat + 1) 0 g16236 gl16237 (gB_w (gBl (show Int32.toInt 0 = 0 by decide)) (by decide) (by decide)) bg16236 (rpop_le gl16237) (by have qa0 : Int32.toInt 0 = 0 := (by decide); omega) (fun k e1 e2 ht => ht) (Nat.lt_succ_self _)
                · have r16496 : z16275.toInt = 0 := gj_eq hc16276 (show Int32.toInt 0 = 0 by decide)
                  have bz16275' : gB z16275 0 0 := ⟨by omega, by omega⟩
                  have lhc16276 := gC_cmpE hz16275 hc16276
                  refine G_goto 111 dr_cX17_reached_42 (by decide +kernel) ?_
                  obtain ⟨z16497, hz16497⟩ : ∃ z : Int32, z = g16235 + Int32.ofInt 1 := ⟨_, rfl⟩
                  have ez16497 : z16497.toInt = g16235.toInt + 1 := gI_inc hz16497 (by decide) bg16235' (by decide) (by decide)
                  have bz16497 : gB z16497 1 1000000 := ⟨by omega, by omega⟩
                  refine G_iinc (L' := [(5, .int z16497), (4, .int g16236), (2, .long gl16237), (0, .ref q12745), (1, .int p12746)]) z16497 0 dr_cX17_reached_111 rfl hz16497.symm (Nat.le_of_ble_eq_true rfl) rfl ?_
                  refine G_goto 22 dr_cX17_reached_114 (by decide +kernel) ?_
                  exact ih22_16239 z16497 g16236 gl16237 (gB_w bz16497 (by decide) (by decide)) bg16236 (rpop_le gl16237) (by omega) (fun k e1 e2 ht => kt22_16240 k e1 e2 (fun R c1 c2 c3 => c3 g16235 g16236 gl16237 p16246 u16273 u16274 z16497 k e1 e2 bg16235 bg16236 x16238 x16239 fq16263 r16272 hu16273 hu16274 lhc16276 ez16497 (ht R c1 c2 c3))) (by omega)
          exact hlp22_16239 (((1000001 : Int) - 0).toNat + 1) 0 0 gl15977 (gB_w (gBl (show Int32.toInt 0 = 0 by decide)) (by decide) (by decide)) (gB_w (gBl (show Int32.toInt 0 = 0 by decide)) (by decide) (by decide)) (rpop_le gl15977) (by have qa0 : Int32.toInt 0 = 0 := (by decide); omega) (fun k e1 e2 ht => ht) (Nat.lt_succ_self _)
    exact hlp11_15978 ((64 - rpop 1) + ((1 : Int)).toNat + 1) 1 1 (gB_w (gBl (show Int32.toInt 1 = 1 by decide)) (by decide) (by decide)) (rpop_le 1) (fun k e1 ht => ht) (Nat.lt_succ_self _)
  · have r16498 : p12746.toInt = 0 := gj_eq hc12749 (show Int32.toInt 0 = 0 by decide)
    have bp12746' : gB p12746 0 0 := ⟨by omega, by omega⟩
    refine G_lconst 0 dr_cX17_reached_4 rfl ?_
    exact G_lretA dr_cX17_reached_5 rfl (Nat.le_of_ble_eq_true rfl) (Nat.le_of_ble_eq_true rfl) ⟨0, rfl, rfl, (Nat.le_of_ble_eq_true rfl), (Nat.le_of_ble_eq_true rfl), (fun R c1 c2 => c2 r16498)⟩