theorem dr_cJ0_charAt_5068e_0 : decode cJ0_charAt_5068e 0 = .ok (.aload_n 0, 1) := by decide +kernel
theorem dr_cJ0_charAt_5068e_1 : decode cJ0_charAt_5068e 1 = .ok (.invokevirtual 492, 3) := by decide +kernel
theorem wr_3_71 : (Jvm.Cond.methodLink "java/lang/String" (492 : Nat) ({ cls := "java/lang/String", name := "isLatin1", desc := "()Z" } : Jvm.MethodName)) ∈ gw := gw_3 71 rfl rfl
theorem wr_3_74 : (Jvm.Cond.code ({ cls := "java/lang/String", name := "isLatin1", desc := "()Z" } : Jvm.MethodName) prog_34_method_154_code (1 : Nat) (Option.some Jvm.ClassFile.FieldType.boolean)) ∈ gw := gw_3 74 rfl rfl
theorem wr_3_72 : (Jvm.Cond.instanceMethod ({ cls := "java/lang/String", name := "isLatin1", desc := "()Z" } : Jvm.MethodName)) ∈ gw := gw_3 72 rfl rfl
theorem wr_3_73 : (Jvm.Cond.selects "java/lang/String" ({ cls := "java/lang/String", name := "isLatin1", desc := "()Z" } : Jvm.MethodName) ({ cls := "java/lang/String", name := "isLatin1", desc := "()Z" } : Jvm.MethodName)) ∈ gw := gw_3 73 rfl rfl
theorem dr_cJ0_charAt_5068e_4 : decode cJ0_charAt_5068e 4 = .ok (.ifCond .eq 12, 3) := by decide +kernel
theorem dr_cJ0_charAt_5068e_7 : decode cJ0_charAt_5068e 7 = .ok (.aload_n 0, 1) := by decide +kernel
theorem dr_cJ0_charAt_5068e_8 : decode cJ0_charAt_5068e 8 = .ok (.getfield 9, 3) := by decide +kernel
theorem dr_cJ0_charAt_5068e_11 : decode cJ0_charAt_5068e 11 = .ok (.iload_n 1, 1) := by decide +kernel
theorem dr_cJ0_charAt_5068e_12 : decode cJ0_charAt_5068e 12 = .ok (.invokestatic 495, 3) := by decide +kernel
theorem wr_3_75 : (Jvm.Cond.methodLink "java/lang/String" (495 : Nat) ({ cls := "java/lang/StringLatin1", name := "charAt", desc := "([BI)C" } : Jvm.MethodName)) ∈ gw := gw_3 75 rfl rfl
theorem wr_3_77 : (Jvm.Cond.code ({ cls := "java/lang/StringLatin1", name := "charAt", desc := "([BI)C" } : Jvm.MethodName) prog_37_method_2_code (2 : Nat) (Option.some Jvm.ClassFile.FieldType.char)) ∈ gw := gw_3 77 rfl rfl
theorem wr_3_76 : (Jvm.Cond.static ({ cls := "java/lang/StringLatin1", name := "charAt", desc := "([BI)C" } : Jvm.MethodName)) ∈ gw := gw_3 76 rfl rfl
theorem dr_cJ0_charAt_5068e_15 : decode cJ0_charAt_5068e 15 = .ok (.ireturn, 1) := by decide +kernel
theorem dr_cJ1_indexOf_5af95_0 : decode cJ1_indexOf_5af95 0 = .ok (.aload_n 2, 1) := by decide +kernel
theorem dr_cJ1_indexOf_5af95_1 : decode cJ1_indexOf_5af95 1 = .ok (.iconst 0, 1) := by decide +kernel
theorem dr_cJ1_indexOf_5af95_2 : decode cJ1_indexOf_5af95 2 = .ok (.baload, 1) := by decide +kernel
theorem dr_cJ1_indexOf_5af95_3 : decode cJ1_indexOf_5af95 3 = .ok (.istore 5, 2) := by decide +kernel
theorem dr_cJ1_indexOf_5af95_5 : decode cJ1_indexOf_5af95 5 = .ok (.iload_n 1, 1) := by decide +kernel
theorem dr_cJ1_indexOf_5af95_6 : decode cJ1_indexOf_5af95 6 = .ok (.iload_n 3, 1) := by decide +kernel
theorem dr_cJ1_indexOf_5af95_7 : decode cJ1_indexOf_5af95 7 = .ok (.isub, 1) := by decide +kernel
theorem dr_cJ1_indexOf_5af95_8 : decode cJ1_indexOf_5af95 8 = .ok (.istore 6, 2) := by decide +kernel
theorem dr_cJ1_indexOf_5af95_10 : decode cJ1_indexOf_5af95 10 = .ok (.iload 4, 2) := by decide +kernel
theorem dr_cJ1_indexOf_5af95_12 : decode cJ1_indexOf_5af95 12 = .ok (.istore 7, 2) := by decide +kernel
theorem dr_cJ1_indexOf_5af95_14 : decode cJ1_indexOf_5af95 14 = .ok (.iload 7, 2) := by decide +kernel
theorem dr_cJ1_indexOf_5af95_16 : decode cJ1_indexOf_5af95 16 = .ok (.iload 6, 2) := by decide +kernel
theorem dr_cJ1_indexOf_5af95_18 : decode cJ1_indexOf_5af95 18 = .ok (.if_icmp .gt 101, 3) := by decide +kernel
theorem dr_cJ1_indexOf_5af95_119 : decode cJ1_indexOf_5af95 119 = .ok (.iconst (-1), 1) := by decide +kernel
theorem dr_cJ1_indexOf_5af95_120 : decode cJ1_indexOf_5af95 120 = .ok (.ireturn, 1) := by decide +kernel
theorem dr_cJ1_indexOf_5af95_21 : decode cJ1_indexOf_5af95 21 = .ok (.aload_n 0, 1) := by decide +kernel
theorem dr_cJ1_indexOf_5af95_22 : decode cJ1_indexOf_5af95 22 = .ok (.iload 7, 2) := by decide +kernel
theorem dr_cJ1_indexOf_5af95_24 : decode cJ1_indexOf_5af95 24 = .ok (.baload, 1) := by decide +kernel
theorem dr_cJ1_indexOf_5af95_25 : decode cJ1_indexOf_5af95 25 = .ok (.iload 5, 2) := by decide +kernel
theorem dr_cJ1_indexOf_5af95_27 : decode cJ1_indexOf_5af95 27 = .ok (.if_icmp .eq 25, 3) := by decide +kernel
theorem dr_cJ1_indexOf_5af95_52 : decode cJ1_indexOf_5af95 52 = .ok (.iload 7, 2) := by decide +kernel
theorem dr_cJ1_indexOf_5af95_54 : decode cJ1_indexOf_5af95 54 = .ok (.iload 6, 2) := by decide +kernel
theorem dr_cJ1_indexOf_5af95_56 : decode cJ1_indexOf_5af95 56 = .ok (.if_icmp .gt 57, 3) := by decide +kernel
theorem dr_cJ1_indexOf_5af95_113 : decode cJ1_indexOf_5af95 113 = .ok (.iinc 7 1, 3) := by decide +kernel
theorem dr_cJ1_indexOf_5af95_116 : decode cJ1_indexOf_5af95 116 = .ok (.goto (-102), 3) := by decide +kernel
theorem dr_cJ1_indexOf_5af95_59 : decode cJ1_indexOf_5af95 59 = .ok (.iload 7, 2) := by decide +kernel
theorem dr_cJ1_indexOf_5af95_61 : decode cJ1_indexOf_5af95 61 = .ok (.iconst 1, 1) := by decide +kernel
theorem dr_cJ1_indexOf_5af95_62 : decode cJ1_indexOf_5af95 62 = .ok (.iadd, 1) := by decide +kernel
theorem dr_cJ1_indexOf_5af95_63 : decode cJ1_indexOf_5af95 63 = .ok (.istore 8, 2) := by decide +kernel
theorem dr_cJ1_indexOf_5af95_65 : decode cJ1_indexOf_5af95 65 = .ok (.iload 8, 2) := by decide +kernel
theorem dr_cJ1_indexOf_5af95_67 : decode cJ1_indexOf_5af95 67 = .ok (.iload_n 3, 1) := by decide +kernel
theorem dr_cJ1_indexOf_5af95_68 : decode cJ1_indexOf_5af95 68 = .ok (.iadd, 1) := by decide +kernel
theorem dr_cJ1_indexOf_5af95_69 : decode cJ1_indexOf_5af95 69 = .ok (.iconst 1, 1) := by decide +kernel
theorem dr_cJ1_indexOf_5af95_70 : decode cJ1_indexOf_5af95 70 = .ok (.isub, 1) := by decide +kernel
theorem dr_cJ1_indexOf_5af95_71 : decode cJ1_indexOf_5af95 71 = .ok (.istore 9, 2) := by decide +kernel
theorem dr_cJ1_indexOf_5af95_73 : decode cJ1_indexOf_5af95 73 = .ok (.iconst 1, 1) := by decide +kernel
theorem dr_cJ1_indexOf_5af95_74 : decode cJ1_indexOf_5af95 74 = .ok (.istore 10, 2) := by decide +kernel
theorem dr_cJ1_indexOf_5af95_76 : decode cJ1_indexOf_5af95 76 = .ok (.iload 8, 2) := by decide +kernel
theorem dr_cJ1_indexOf_5af95_78 : decode cJ1_indexOf_5af95 78 = .ok (.iload 9, 2) := by decide +kernel
theorem dr_cJ1_indexOf_5af95_80 : decode cJ1_indexOf_5af95 80 = .ok (.if_icmp .ge 23, 3) := by decide +kernel
theorem dr_cJ1_indexOf_5af95_103 : decode cJ1_indexOf_5af95 103 = .ok (.iload 8, 2) := by decide +kernel
theorem dr_cJ1_indexOf_5af95_105 : decode cJ1_indexOf_5af95 105 = .ok (.iload 9, 2) := by decide +kernel
theorem dr_cJ1_indexOf_5af95_107 : decode cJ1_indexOf_5af95 107 = .ok (.if_icmp .ne 6, 3) := by decide +kernel
theorem dr_cJ1_indexOf_5af95_110 : decode cJ1_indexOf_5af95 110 = .ok (.iload 7, 2) := by decide +kernel
theorem dr_cJ1_indexOf_5af95_112 : decode cJ1_indexOf_5af95 112 = .ok (.ireturn, 1) := by decide +kernel
theorem dr_cJ1_indexOf_5af95_83 : decode cJ1_indexOf_5af95 83 = .ok (.aload_n 0, 1) := by decide +kernel
theorem dr_cJ1_indexOf_5af95_84 : decode cJ1_indexOf_5af95 84 = .ok (.iload 8, 2) := by decide +kernel
theorem dr_cJ1_indexOf_5af95_86 : decode cJ1_indexOf_5af95 86 = .ok (.baload, 1) := by decide +kernel
theorem dr_cJ1_indexOf_5af95_87 : decode cJ1_indexOf_5af95 87 = .ok (.aload_n 2, 1) := by decide +kernel
theorem dr_cJ1_indexOf_5af95_88 : decode cJ1_indexOf_5af95 88 = .ok (.iload 10, 2) := by decide +kernel
theorem dr_cJ1_indexOf_5af95_90 : decode cJ1_indexOf_5af95 90 = .ok (.baload, 1) := by decide +kernel
theorem dr_cJ1_indexOf_5af95_91 : decode cJ1_indexOf_5af95 91 = .ok (.if_icmp .ne 12, 3) := by decide +kernel
theorem dr_cJ1_indexOf_5af95_94 : decode cJ1_indexOf_5af95 94 = .ok (.iinc 8 1, 3) := by decide +kernel
theorem dr_cJ1_indexOf_5af95_97 : decode cJ1_indexOf_5af95 97 = .ok (.iinc 10 1, 3) := by decide +kernel
theorem dr_cJ1_indexOf_5af95_100 : decode cJ1_indexOf_5af95 100 = .ok (.goto (-24), 3) := by decide +kernel
theorem dr_cJ1_indexOf_5af95_30 : decode cJ1_indexOf_5af95 30 = .ok (.iinc 7 1, 3) := by decide +kernel
theorem dr_cJ1_indexOf_5af95_33 : decode cJ1_indexOf_5af95 33 = .ok (.iload 7, 2) := by decide +kernel
theorem dr_cJ1_indexOf_5af95_35 : decode cJ1_indexOf_5af95 35 = .ok (.iload 6, 2) := by decide +kernel
theorem dr_cJ1_indexOf_5af95_37 : decode cJ1_indexOf_5af95 37 = .ok (.if_icmp .gt 15, 3) := by decide +kernel
theorem dr_cJ1_indexOf_5af95_40 : decode cJ1_indexOf_5af95 40 = .ok (.aload_n 0, 1) := by decide +kernel
theorem dr_cJ1_indexOf_5af95_41 : decode cJ1_indexOf_5af95 41 = .ok (.iload 7, 2) := by decide +kernel
theorem dr_cJ1_indexOf_5af95_43 : decode cJ1_indexOf_5af95 43 = .ok (.baload, 1) := by decide +kernel
theorem dr_cJ1_indexOf_5af95_44 : decode cJ1_indexOf_5af95 44 = .ok (.iload 5, 2) := by decide +kernel
theorem dr_cJ1_indexOf_5af95_46 : decode cJ1_indexOf_5af95 46 = .ok (.if_icmp .eq 6, 3) := by decide +kernel
theorem dr_cJ1_indexOf_5af95_49 : decode cJ1_indexOf_5af95 49 = .ok (.goto (-19), 3) := by decide +kernel
theorem dr_cJ1_indexOf_b82b6_0 : decode cJ1_indexOf_b82b6 0 = .ok (.aload_n 1, 1) := by decide +kernel
theorem dr_cJ1_indexOf_b82b6_1 : decode cJ1_indexOf_b82b6 1 = .ok (.arraylength, 1) := by decide +kernel
theorem dr_cJ1_indexOf_b82b6_2 : decode cJ1_indexOf_b82b6 2 = .ok (.ifCond .ne 5, 3) := by decide +kernel
theorem dr_cJ1_indexOf_b82b6_7 : decode cJ1_indexOf_b82b6 7 = .ok (.aload_n 0, 1) := by decide +kernel
theorem dr_cJ1_indexOf_b82b6_8 : decode cJ1_indexOf_b82b6 8 = .ok (.arraylength, 1) := by decide +kernel
theorem dr_cJ1_indexOf_b82b6_9 : decode cJ1_indexOf_b82b6 9 = .ok (.ifCond .ne 5, 3) := by decide +kernel
theorem dr_cJ1_indexOf_b82b6_14 : decode cJ1_indexOf_b82b6 14 = .ok (.aload_n 0, 1) := by decide +kernel
theorem dr_cJ1_indexOf_b82b6_15 : decode cJ1_indexOf_b82b6 15 = .ok (.aload_n 0, 1) := by decide +kernel
theorem dr_cJ1_indexOf_b82b6_16 : decode cJ1_indexOf_b82b6 16 = .ok (.arraylength, 1) := by decide +kernel
theorem dr_cJ1_indexOf_b82b6_17 : decode cJ1_indexOf_b82b6 17 = .ok (.aload_n 1, 1) := by decide +kernel
theorem dr_cJ1_indexOf_b82b6_18 : decode cJ1_indexOf_b82b6 18 = .ok (.aload_n 1, 1) := by decide +kernel
theorem dr_cJ1_indexOf_b82b6_19 : decode cJ1_indexOf_b82b6 19 = .ok (.arraylength, 1) := by decide +kernel
theorem dr_cJ1_indexOf_b82b6_20 : decode cJ1_indexOf_b82b6 20 = .ok (.iconst 0, 1) := by decide +kernel
theorem dr_cJ1_indexOf_b82b6_21 : decode cJ1_indexOf_b82b6 21 = .ok (.invokestatic 99, 3) := by decide +kernel
theorem wr_8_203 : (Jvm.Cond.methodLink "java/lang/StringLatin1" (99 : Nat) ({ cls := "java/lang/StringLatin1", name := "indexOf", desc := "([BI[BII)I" } : Jvm.MethodName)) ∈ gw := gw_8 203 rfl rfl
theorem wr_8_205 : (Jvm.Cond.code ({ cls := "java/lang/StringLatin1", name := "indexOf", desc := "([BI[BII)I" } : Jvm.MethodName) prog_37_method_25_code (11 : Nat) (Option.some Jvm.ClassFile.FieldType.int)) ∈ gw := gw_8 205 rfl rfl
theorem wr_8_204 : (Jvm.Cond.static ({ cls := "java/lang/StringLatin1", name := "indexOf", desc := "([BI[BII)I" } : Jvm.MethodName)) ∈ gw := gw_8 204 rfl rfl
theorem dr_cJ1_indexOf_b82b6_24 : decode cJ1_indexOf_b82b6 24 = .ok (.ireturn, 1) := by decide +kernel
theorem dr_cJ1_indexOf_b82b6_12 : decode cJ1_indexOf_b82b6 12 = .ok (.iconst (-1), 1) := by decide +kernel
theorem dr_cJ1_indexOf_b82b6_13 : decode cJ1_indexOf_b82b6 13 = .ok (.ireturn, 1) := by decide +kernel
abbrev ky_641682_String_charAt : gKey := (cJ0_charAt_5068e, 2, "java/lang/String", (some FieldType.char), [], "charAt", fun _ _ => True)
def pp_641682_String_charAt (D : va_G) (I : FieldType → ClassId) (P641675 : List Nat) (F641676 : Nat → va_E) (qs641677 : Nat) (qb641678 : Nat) (bs641679 : List Int32) (p641680 : Int32) : Option Value → va_W → Nat → Nat → Prop := fun r w dc ds => ∃ (o641717 : Int32), r = some (.int o641717) ∧ w = va_pl P641675 F641676 ∧ dc ≤ 0 ∧ ds ≤ 0 ∧ gB o641717 0 65535
set_option maxRecDepth 100000 in
set_option maxHeartbeats 4000000 in
theorem cp_641682_String_charAt (l : Launch) (hl0 : l.stackTraces = false) (D : va_G) (I : FieldType → ClassId) (P641675 : List Nat) (F641676 : Nat → va_E) (qs641677 : Nat) (qb641678 : Nat) (bs641679 : List Int32) (p641680 : Int32) (hbs641679 : ∀ A s H, (gV D I).2.2.2.1 A s H → gSC qs641677 qb641678 bs641679 A s H) (nbs641679 : (bs641679.length : Int) ≤ 65535) (lbs641679 : gLB bs641679) (bp641680 : gB p641680 0 65535) (x641681 : p641680.toInt < (bs641679.length : Int)) : CtA (gV D I) l yJ0_charAt_5068e cJ0_charAt_5068e 2 (some FieldType.char) 3 64 0 0 [.ref qs641677, .int p641680] (va_pl P641675 F641676) (pp_641682_String_charAt D I P641675 F641676 qs641677 qb641678 bs641679 p641680) gNA := by
  refine CtA_ofF hl0 (by decide +kernel) (Nat.le_of_ble_eq_true rfl) ?_
  refine G_aload_n 0 dr_cJ0_charAt_5068e_0 rfl ?_
  refine Gw_callVk (As := []) (gV_ok D I) (cp_641688_String_isLatin1 l hl0 D I P641675 F641676 qs641677 qb641678 bs641679 hbs641679 nbs641679 lbs641679) dr_cJ0_charAt_5068e_1 ⟨wr_3_71, wr_1_21, wr_3_74, by decide, rfl, (Nat.le_of_ble_eq_true rfl), (Nat.le_of_ble_eq_true rfl)⟩ wr_3_72 wr_3_73 (fun _ _ _ h => (hbs641679 _ _ _ h).1) (show 0 + 0 ≤ 0 by first | omega | decide) (show 0 + 0 ≤ 0 by first | omega | decide) (Nat.le_of_ble_eq_true rfl) (fun r641692 w641693 dc641689 ds641690 hp641691 => ?_) (fun _ _ _ _ _ z => z.elim)
  obtain ⟨rfl, rfl, hdc, hds⟩ := hp641691
  change G _ _ _ _ _ _ _ (.int 1 :: _) _ _ _
  refine G_widen (cs' := 0) (sl' := 0) (by omega) (by omega) ?_
  refine G_if_eq 16 dr_cJ0_charAt_5068e_4 (by decide +kernel) (fun hc => absurd hc (by decide)) (fun _ => ?_)
  refine G_aload_n 0 dr_cJ0_charAt_5068e_7 rfl ?_
  refine G_kget dr_cJ0_charAt_5068e_8 wr_8_182 (fun _ _ _ h => (hbs641679 _ _ _ h).2.2.1) ?_
  refine G_iload_n 1 dr_cJ0_charAt_5068e_11 rfl ?_
  refine Gw_callS (As := [.ref qb641678, .int p641680]) (gV_ok D I) (cp_641700_StringLatin1_charAt l hl0 D I P641675 F641676 qb641678 bs641679 p641680 (fun _ _ _ h => (hbs641679 _ _ _ h).2.2.2) (by omega) lbs641679 (gB_w bp641680 (by decide) (by decide)) (by omega)) dr_cJ0_charAt_5068e_12 ⟨wr_3_75, wr_1_28, wr_3_77, by decide, rfl, (Nat.le_of_ble_eq_true rfl), (Nat.le_of_ble_eq_true rfl)⟩ wr_3_76 (show 0 + 0 ≤ 0 by first | omega | decide) (show 0 + 0 ≤ 0 by first | omega | decide) (Nat.le_of_ble_eq_true rfl) (fun r641714 w641715 dc641711 ds641712 hp641713 => ?_) (fun _ _ _ _ _ z => z.elim)
  obtain ⟨o641716, rfl, rfl, hdc, hds, bo641716⟩ := hp641713
  change G _ _ _ _ _ _ _ (.int o641716 :: _) _ _ _
  refine G_widen (cs' := 0) (sl' := 0) (by omega) (by omega) ?_
  exact G_zretA FieldType.char dr_cJ0_charAt_5068e_15 rfl (gN_char bo641716) (Nat.le_of_ble_eq_true rfl) (Nat.le_of_ble_eq_true rfl) ⟨o641716, rfl, rfl, (Nat.le_of_ble_eq_true rfl), (Nat.le_of_ble_eq_true rfl), bo641716⟩
abbrev ky_641778_StringLatin1_indexOf : gKey := (cJ1_indexOf_5af95, 11, "java/lang/StringLatin1", (some FieldType.int), [], "indexOf", fun _ _ => True)
def pp_641778_StringLatin1_indexOf (D : va_G) (I : FieldType → ClassId) (P641766 : List Nat) (F641767 : Nat → va_E) (q641768 : Nat) (qs641769 : Nat) (bs641770 : List Int32) (p641771 : Int32) (p641772 : Int32) (f641773 : Nat → Int32) (n641774 : Nat) : Option Value → va_W → Nat → Nat → Prop := fun r w dc ds => ∃ (o648763 : Int32), r = some (.int o648763) ∧ w = va_pl P641766 F641767 ∧ dc ≤ 0 ∧ ds ≤ 0 ∧ gB o648763 (-2147483646) 16777215 ∧ (o648763.toInt < 0 ∨ o648763.toInt + p641772.toInt ≤ p641771.toInt) ∧ ixP (fun j => bs641770.getD j 0) f641773 o648763
set_option maxRecDepth 100000 in
set_option maxHeartbeats 4000000 in
theorem cp_641778_StringLatin1_indexOf (l : Launch) (hl0 : l.stackTraces = false) (D : va_G) (I : FieldType → ClassId) (P641766 : List Nat) (F641767 : Nat → va_E) (q641768 : Nat) (qs641769 : Nat) (bs641770 : List Int32) (p641771 : Int32) (p641772 : Int32) (f641773 : Nat → Int32) (n641774 : Nat) (hmq641768 : q641768 ∈ P641766) (heq641768 : F641767 q641768 = .inl (I .byte, n641774, .inl f641773)) (hbs641770 : ∀ A s H, (gV D I).2.2.2.1 A s H → va_T .byte qs641769 bs641770.length (fun j => .int (bs641770.getD j 0)) A s H) (nbs641770 : (bs641770.length : Int) ≤ 65535) (lbs641770 : gLB bs641770) (bp641771 : gB p641771 0 16777216) (bp641772 : gB p641772 1 16777216) (bf641773 : gF f641773 (-128) 127) (x641775 : p641771.toInt = (bs641770.length : Int)) (x641776 : p641772.toInt = (n641774 : Int)) (x641777 : ((n641774 : Int) ≤ 16777216)) : CtA (gV D I) l yJ1_indexOf_5af95 cJ1_indexOf_5af95 11 (some FieldType.int) 0 0 0 0 [.ref qs641769, .int p641771, .ref q641768, .int p641772, .int 0] (va_pl P641766 F641767) (pp_641778_StringLatin1_indexOf D I P641766 F641767 q641768 qs641769 bs641770 p641771 p641772 f641773 n641774) gNA := by
  refine CtA_ofF hl0 (by decide +kernel) (Nat.le_of_ble_eq_true rfl) ?_
  refine G_aload_n 2 dr_cJ1_indexOf_5af95_0 rfl ?_
  refine G_iconst 0 dr_cJ1_indexOf_5af95_1 (by decide +kernel) ?_
  refine Gp_bald 1 hmq641768 heq641768 dr_cJ1_indexOf_5af95_2 rfl (gB_inr (x := 0) (show (0 : Int) ≤ Int32.toInt 0 by decide) (show Int32.toInt 0 < _ by rw [show Int32.toInt 0 = 0 by decide]; omega)) (G_nam fun z641779 hz641779 => ?_)
  have bz641779 : gB z641779 (-128) 127 := by rw [hz641779]; exact bf641773 _
  refine G_istore (L' := [(5, .int z641779), (0, .ref qs641769), (1, .int p641771), (2, .ref q641768), (3, .int p641772), (4, .int 0)]) dr_cJ1_indexOf_5af95_3 (Nat.le_of_ble_eq_true rfl) rfl ?_
  refine G_iload_n 2 dr_cJ1_indexOf_5af95_5 rfl ?_
  refine G_iload_n 4 dr_cJ1_indexOf_5af95_6 rfl ?_
  refine G_isub dr_cJ1_indexOf_5af95_7 (G_nam fun z641780 hz641780 => ?_)
  have ez641780 : z641780.toInt = p641771.toInt - p641772.toInt := by rw [gI_sub hz641780 bp641771 bp641772 (by decide) (by decide)]
  have bz641780 : gB z641780 (-16777216) 16777215 := gB_sub (gI_sub hz641780 bp641771 bp641772 (by decide) (by decide)) bp641771 bp641772 (by decide) (by decide)
  refine G_istore (L' := [(6, .int z641780), (5, .int z641779), (0, .ref qs641769), (1, .int p641771), (2, .ref q641768), (3, .int p641772), (4, .int 0)]) dr_cJ1_indexOf_5af95_8 (Nat.le_of_ble_eq_true rfl) rfl ?_
  refine G_iload 6 dr_cJ1_indexOf_5af95_10 rfl ?_
  refine G_istore (L' := [(7, .int 0), (6, .int z641780), (5, .int z641779), (0, .ref qs641769), (1, .int p641771), (2, .ref q641768), (3, .int p641772), (4, .int 0)]) dr_cJ1_indexOf_5af95_12 (Nat.le_of_ble_eq_true rfl) rfl ?_
  have hlp14_647691 : ∀ (n14_647691 : Nat) (g647690 : Int32), gB g647690 (-2147483646) 16777217 → 0 ≤ g647690.toInt → ((z641780.toInt : Int) + 2 - g647690.toInt).toNat < n14_647691 → G (gV D I) l (gRm 0 0 0 0) (gMA (gV D I) (pp_641778_StringLatin1_indexOf D I P641766 F641767 q641768 qs641769 bs641770 p641771 p641772 f641773 n641774) gNA 0 0) ky_641778_StringLatin1_indexOf 14 [(7, .int g647690), (6, .int z641780), (5, .int z641779), (0, .ref qs641769), (1, .int p641771), (2, .ref q641768), (3, .int p641772), (4, .int 0)] [] (va_pl P641766 F641767) 0 0 := by
    intro n14_647691
    induction n14_647691 with
    | zero => intro g647690 bg647690 x647691 hm14_647691; exact absurd hm14_647691 (Nat.not_lt_zero _)
    | succ n14_647691 ih14_647691 =>
      intro g647690 bg647690 x647691 hm14_647691
      refine G_iload 0 dr_cJ1_indexOf_5af95_14 rfl ?_
      refine G_iload 1 dr_cJ1_indexOf_5af95_16 rfl ?_
      refine G_icmp_gt 119 dr_cJ1_indexOf_5af95_18 (by decide +kernel) (fun hc647692 => ?_) (fun hc647692 => ?_)
      · have r647693 : z641780.toInt < g647690.toInt := gC_lt hc647692
        have bg647690' : gB g647690 (-16777215) 16777217 := ⟨by omega, by omega⟩
        refine G_iconst (-1) dr_cJ1_indexOf_5af95_119 (by decide +kernel) ?_
        exact G_iretA dr_cJ1_indexOf_5af95_120 rfl (Nat.le_of_ble_eq_true rfl) (Nat.le_of_ble_eq_true rfl) ⟨(-1), rfl, rfl, (Nat.le_of_ble_eq_true rfl), (Nat.le_of_ble_eq_true rfl), (gB_w (gBl (show Int32.toInt (-1) = (-1) by decide)) (by decide) (by decide)), (by have qa0 : Int32.toInt (-1) = (-1) := (by decide); have qa1 : Int32.toInt 0 = 0 := (by decide); omega), (ixP_n (by decide))⟩
      · have r647694 : g647690.toInt ≤ z641780.toInt := gC_nlt hc647692
        have bg647690' : gB g647690 (-2147483646) 16777215 := ⟨by omega, by omega⟩
        refine G_aload_n 3 dr_cJ1_indexOf_5af95_21 rfl ?_
        refine G_iload 0 dr_cJ1_indexOf_5af95_22 rfl ?_
        refine G_kbald (f := fun j => bs641770.getD j 0) dr_cJ1_indexOf_5af95_24 hbs641770 (gB_inr (by omega) (by omega)) (G_nam fun z647695 hz647695 => ?_)
        have bz647695 : gB z647695 (-2147483648) 2147483647 := gB_any z647695
        refine G_iload 2 dr_cJ1_indexOf_5af95_25 rfl ?_
        refine G_icmp_eq 52 dr_cJ1_indexOf_5af95_27 (by decide +kernel) (fun hc647696 => ?_) (fun hc647696 => ?_)
        · have r647697 : z647695.toInt = z641779.toInt := gC_eq hc647696
          have bz647695' : gB z647695 (-128) 127 := ⟨by omega, by omega⟩
          refine G_iload 0 dr_cJ1_indexOf_5af95_52 rfl ?_
          refine G_iload 1 dr_cJ1_indexOf_5af95_54 rfl ?_
          refine G_icmp_gt 113 dr_cJ1_indexOf_5af95_56 (by decide +kernel) (fun hc647698 => ?_) (fun hc647698 => ?_)
          · have r647699 : z641780.toInt < g647690.toInt := gC_lt hc647698
            have bz641780' : gB z641780 (-16777216) 16777214 := ⟨by omega, by omega⟩
            have bg647690'' : gB g647690 (-16777215) 16777215 := ⟨by omega, by omega⟩
            obtain ⟨z647700, hz647700⟩ : ∃ z : Int32, z = g647690 + Int32.ofInt 1 := ⟨_, rfl⟩
            have ez647700 : z647700.toInt = g647690.toInt + 1 := gI_inc hz647700 (by decide) bg647690'' (by decide) (by decide)
            have bz647700 : gB z647700 (-16777214) 16777216 := ⟨by omega, by omega⟩
            refine G_iinc (L' := [(7, .int z647700), (6, .int z641780), (5, .int z641779), (0, .ref qs641769), (1, .int p641771), (2, .ref q641768), (3, .int p641772), (4, .int 0)]) z647700 0 dr_cJ1_indexOf_5af95_113 rfl hz647700.symm (Nat.le_of_ble_eq_true rfl) rfl ?_
            refine G_goto 14 dr_cJ1_indexOf_5af95_116 (by decide +kernel) ?_
            exact ih14_647691 z647700 (gB_w bz647700 (by decide) (by decide)) (by have qa0 : Int32.toInt 0 = 0 := (by decide); omega) (by have qa0 : Int32.toInt 0 = 0 := (by decide); omega)
          · have r647701 : g647690.toInt ≤ z641780.toInt := gC_nlt hc647698
            refine G_iload 0 dr_cJ1_indexOf_5af95_59 rfl ?_
            refine G_iconst 1 dr_cJ1_indexOf_5af95_61 (by decide +kernel) ?_
            refine G_iadd dr_cJ1_indexOf_5af95_62 (G_nam fun z647702 hz647702 => ?_)
            have ez647702 : z647702.toInt = g647690.toInt + 1 := by rw [gI_add hz647702 bg647690' (gBl (show Int32.toInt 1 = 1 by decide)) (by decide) (by decide), show Int32.toInt 1 = 1 from by decide]
            have bz647702 : gB z647702 (-2147483645) 16777216 := gB_add (gI_add hz647702 bg647690' (gBl (show Int32.toInt 1 = 1 by decide)) (by decide) (by decide)) bg647690' (gBl (show Int32.toInt 1 = 1 by decide)) (by decide) (by decide)
            refine G_istore (L' := [(8, .int z647702), (7, .int g647690), (6, .int z641780), (5, .int z641779), (0, .ref qs641769), (1, .int p641771), (2, .ref q641768), (3, .int p641772), (4, .int 0)]) dr_cJ1_indexOf_5af95_63 (Nat.le_of_ble_eq_true rfl) rfl ?_
            refine G_iload 0 dr_cJ1_indexOf_5af95_65 rfl ?_
            refine G_iload_n 7 dr_cJ1_indexOf_5af95_67 rfl ?_
            refine G_iadd dr_cJ1_indexOf_5af95_68 (G_nam fun z647703 hz647703 => ?_)
            have ez647703 : z647703.toInt = z647702.toInt + p641772.toInt := by rw [gI_add hz647703 bz647702 bp641772 (by decide) (by decide)]
            have bz647703 : gB z647703 (-2147483644) 33554432 := gB_add (gI_add hz647703 bz647702 bp641772 (by decide) (by decide)) bz647702 bp641772 (by decide) (by decide)
            refine G_iconst 1 dr_cJ1_indexOf_5af95_69 (by decide +kernel) ?_
            refine G_isub dr_cJ1_indexOf_5af95_70 (G_nam fun z647704 hz647704 => ?_)
            have ez647704 : z647704.toInt = z647703.toInt - 1 := by rw [gI_sub hz647704 bz647703 (gBl (show Int32.toInt 1 = 1 by decide)) (by decide) (by decide), show Int32.toInt 1 = 1 from by decide]
            have bz647704 : gB z647704 (-2147483645) 33554431 := gB_sub (gI_sub hz647704 bz647703 (gBl (show Int32.toInt 1 = 1 by decide)) (by decide) (by decide)) bz647703 (gBl (show Int32.toInt 1 = 1 by decide)) (by decide) (by decide)
            refine G_istore (L' := [(9, .int z647704), (8, .int z647702), (7, .int g647690), (6, .int z641780), (5, .int z641779), (0, .ref qs641769), (1, .int p641771), (2, .ref q641768), (3, .int p641772), (4, .int 0)]) dr_cJ1_indexOf_5af95_71 (Nat.le_of_ble_eq_true rfl) rfl ?_
            refine G_iconst 1 dr_cJ1_indexOf_5af95_73 (by decide +kernel) ?_
            refine G_istore (L' := [(10, .int 1), (9, .int z647704), (8, .int z647702), (7, .int g647690), (6, .int z641780), (5, .int z641779), (0, .ref qs641769), (1, .int p641771), (2, .ref q641768), (3, .int p641772), (4, .int 0)]) dr_cJ1_indexOf_5af95_74 (Nat.le_of_ble_eq_true rfl) rfl ?_
            have hlp76_647827 : ∀ (n76_647827 : Nat) (g647822 : Int32) (g647823 : Int32), gB g647822 1 16777217 → gB g647823 (-2147483645) 33554431 → 0 ≤ g647823.toInt → g647822.toInt = g647823.toInt - g647690.toInt → 1 ≤ g647822.toInt → g647823.toInt ≤ z647704.toInt → ((z647704.toInt : Int) + 2 - g647823.toInt).toNat < n76_647827 → G (gV D I) l (gRm 0 0 0 0) (gMA (gV D I) (pp_641778_StringLatin1_indexOf D I P641766 F641767 q641768 qs641769 bs641770 p641771 p641772 f641773 n641774) gNA 0 0) ky_641778_StringLatin1_indexOf 76 [(10, .int g647822), (9, .int z647704), (8, .int g647823), (7, .int g647690), (6, .int z641780), (5, .int z641779), (0, .ref qs641769), (1, .int p641771), (2, .ref q641768), (3, .int p641772), (4, .int 0)] [] (va_pl P641766 F641767) 0 0 := by
              intro n76_647827
              induction n76_647827 with
              | zero => intro g647822 g647823 bg647822 bg647823 x647824 x647825 x647826 x647827 hm76_647827; exact absurd hm76_647827 (Nat.not_lt_zero _)
              | succ n76_647827 ih76_647827 =>
                intro g647822 g647823 bg647822 bg647823 x647824 x647825 x647826 x647827 hm76_647827
                refine G_iload 2 dr_cJ1_indexOf_5af95_76 rfl ?_
                refine G_iload 1 dr_cJ1_indexOf_5af95_78 rfl ?_
                refine G_icmp_ge 103 dr_cJ1_indexOf_5af95_80 (by decide +kernel) (fun hc647828 => ?_) (fun hc647828 => ?_)
                · have r647829 : z647704.toInt ≤ g647823.toInt := gC_le hc647828
                  refine G_iload 2 dr_cJ1_indexOf_5af95_103 rfl ?_
                  refine G_iload 1 dr_cJ1_indexOf_5af95_105 rfl ?_
                  refine G_icmp_ne 113 dr_cJ1_indexOf_5af95_107 (by decide +kernel) (fun hc647830 => ?_) (fun hc647830 => ?_)
                  · have r647831 : g647823.toInt ≠ z647704.toInt := gC_ne hc647830
                    obtain ⟨z647832, hz647832⟩ : ∃ z : Int32, z = g647690 + Int32.ofInt 1 := ⟨_, rfl⟩
                    have ez647832 : z647832.toInt = g647690.toInt + 1 := gI_inc hz647832 (by decide) bg647690' (by decide) (by decide)
                    have bz647832 : gB z647832 (-2147483645) 16777216 := ⟨by omega, by omega⟩
                    refine G_iinc (L' := [(7, .int z647832), (10, .int g647822), (9, .int z647704), (8, .int g647823), (6, .int z641780), (5, .int z641779), (0, .ref qs641769), (1, .int p641771), (2, .ref q641768), (3, .int p641772), (4, .int 0)]) z647832 3 dr_cJ1_indexOf_5af95_113 rfl hz647832.symm (Nat.le_of_ble_eq_true rfl) rfl ?_
                    refine G_goto 14 dr_cJ1_indexOf_5af95_116 (by decide +kernel) ?_
                    refine G_lv (L' := [(7, .int z647832), (6, .int z641780), (5, .int z641779), (0, .ref qs641769), (1, .int p641771), (2, .ref q641768), (3, .int p641772), (4, .int 0)]) [0, 4, 5, 6, 7, 8, 9, 10] rfl ?_
                    exact ih14_647691 z647832 (gB_w bz647832 (by decide) (by decide)) (by have qa0 : Int32.toInt 0 = 0 := (by decide); omega) (by have qa0 : Int32.toInt 0 = 0 := (by decide); omega)
                  · have r647833 : g647823.toInt = z647704.toInt := gC_eq hc647830
                    refine G_iload 3 dr_cJ1_indexOf_5af95_110 rfl ?_
                    exact G_iretA dr_cJ1_indexOf_5af95_112 rfl (Nat.le_of_ble_eq_true rfl) (Nat.le_of_ble_eq_true rfl) ⟨g647690, rfl, rfl, (Nat.le_of_ble_eq_true rfl), (Nat.le_of_ble_eq_true rfl), bg647690', (by have qa0 : Int32.toInt 0 = 0 := (by decide); omega), (by first | exact ixP_of (by assumption) (by assumption) (by omega) | exact absurd (show False by omega) not_false)⟩
                · have r647834 : g647823.toInt < z647704.toInt := gC_nle hc647828
                  have bg647823' : gB g647823 (-2147483645) 33554430 := ⟨by omega, by omega⟩
                  have bz647704' : gB z647704 (-2147483644) 33554431 := ⟨by omega, by omega⟩
                  refine G_aload_n 6 dr_cJ1_indexOf_5af95_83 rfl ?_
                  refine G_iload 2 dr_cJ1_indexOf_5af95_84 rfl ?_
                  refine G_kbald (f := fun j => bs641770.getD j 0) dr_cJ1_indexOf_5af95_86 hbs641770 (gB_inr (by omega) (by omega)) (G_nam fun z647835 hz647835 => ?_)
                  have bz647835 : gB z647835 (-2147483648) 2147483647 := gB_any z647835
                  refine G_aload_n 8 dr_cJ1_indexOf_5af95_87 rfl ?_
                  refine G_iload 0 dr_cJ1_indexOf_5af95_88 rfl ?_
                  refine Gp_bald 1 hmq641768 heq641768 dr_cJ1_indexOf_5af95_90 rfl (gB_inr (by omega) (by omega)) (G_nam fun z647836 hz647836 => ?_)
                  have bz647836 : gB z647836 (-128) 127 := by rw [hz647836]; exact bf641773 _
                  refine G_icmp_ne 103 dr_cJ1_indexOf_5af95_91 (by decide +kernel) (fun hc647837 => ?_) (fun hc647837 => ?_)
                  · have r647838 : z647835.toInt ≠ z647836.toInt := gC_ne hc647837
                    refine G_iload 2 dr_cJ1_indexOf_5af95_103 rfl ?_
                    refine G_iload 1 dr_cJ1_indexOf_5af95_105 rfl ?_
                    refine G_icmp_ne 113 dr_cJ1_indexOf_5af95_107 (by decide +kernel) (fun hc647839 => ?_) (fun hc647839 => ?_)
                    · have r647840 : g647823.toInt ≠ z647704.toInt := gC_ne hc647839
                      obtain ⟨z647841, hz647841⟩ : ∃ z : Int32, z = g647690 + Int32.ofInt 1 := ⟨_, rfl⟩
                      have ez647841 : z647841.toInt = g647690.toInt + 1 := gI_inc hz647841 (by decide) bg647690' (by decide) (by decide)
                      have bz647841 : gB z647841 (-2147483645) 16777216 := ⟨by omega, by omega⟩
                      refine G_iinc (L' := [(7, .int z647841), (10, .int g647822), (9, .int z647704), (8, .int g647823), (6, .int z641780), (5, .int z641779), (0, .ref qs641769), (1, .int p641771), (2, .ref q641768), (3, .int p641772), (4, .int 0)]) z647841 3 dr_cJ1_indexOf_5af95_113 rfl hz647841.symm (Nat.le_of_ble_eq_true rfl) rfl ?_
                      refine G_goto 14 dr_cJ1_indexOf_5af95_116 (by decide +kernel) ?_
                      refine G_lv (L' := [(7, .int z647841), (6, .int z641780), (5, .int z641779), (0, .ref qs641769), (1, .int p641771), (2, .ref q641768), (3, .int p641772), (4, .int 0)]) [0, 4, 5, 6, 7, 8, 9, 10] rfl ?_
                      exact ih14_647691 z647841 (gB_w bz647841 (by decide) (by decide)) (by have qa0 : Int32.toInt 0 = 0 := (by decide); omega) (by have qa0 : Int32.toInt 0 = 0 := (by decide); omega)
                    · have r647842 : g647823.toInt = z647704.toInt := gC_eq hc647839
                      have bg647823'' : gB g647823 (-2147483644) 33554430 := ⟨by omega, by omega⟩
                      have bz647704'' : gB z647704 (-2147483644) 33554430 := ⟨by omega, by omega⟩
                      refine G_iload 3 dr_cJ1_indexOf_5af95_110 rfl ?_
                      exact G_iretA dr_cJ1_indexOf_5af95_112 rfl (Nat.le_of_ble_eq_true rfl) (Nat.le_of_ble_eq_true rfl) ⟨g647690, rfl, rfl, (Nat.le_of_ble_eq_true rfl), (Nat.le_of_ble_eq_true rfl), bg647690', (by have qa0 : Int32.toInt 0 = 0 := (by decide); omega), (by first | exact ixP_of (by assumption) (by assumption) (by omega) | exact absurd (show False by omega) not_false)⟩
                  · have r647843 : z647835.toInt = z647836.toInt := gC_eq hc647837
                    have bz647835' : gB z647835 (-128) 127 := ⟨by omega, by omega⟩
                    obtain ⟨z647844, hz647844⟩ : ∃ z : Int32, z = g647823 + Int32.ofInt 1 := ⟨_, rfl⟩
                    have ez647844 : z647844.toInt = g647823.toInt + 1 := gI_inc hz647844 (by decide) bg647823' (by decide) (by decide)
                    have bz647844 : gB z647844 (-2147483644) 33554431 := ⟨by omega, by omega⟩
                    refine G_iinc (L' := [(8, .int z647844), (10, .int g647822), (9, .int z647704), (7, .int g647690), (6, .int z641780), (5, .int z641779), (0, .ref qs641769), (1, .int p641771), (2, .ref q641768), (3, .int p641772), (4, .int 0)]) z647844 2 dr_cJ1_indexOf_5af95_94 rfl hz647844.symm (Nat.le_of_ble_eq_true rfl) rfl ?_
                    have bg647822' : gB g647822 1 16777216 := ⟨by omega, by omega⟩
                    obtain ⟨z647845, hz647845⟩ : ∃ z : Int32, z = g647822 + Int32.ofInt 1 := ⟨_, rfl⟩
                    have ez647845 : z647845.toInt = g647822.toInt + 1 := gI_inc hz647845 (by decide) bg647822' (by decide) (by decide)
                    have bz647845 : gB z647845 2 16777217 := ⟨by omega, by omega⟩
                    refine G_iinc (L' := [(10, .int z647845), (8, .int z647844), (9, .int z647704), (7, .int g647690), (6, .int z641780), (5, .int z641779), (0, .ref qs641769), (1, .int p641771), (2, .ref q641768), (3, .int p641772), (4, .int 0)]) z647845 1 dr_cJ1_indexOf_5af95_97 rfl hz647845.symm (Nat.le_of_ble_eq_true rfl) rfl ?_
                    refine G_goto 76 dr_cJ1_indexOf_5af95_100 (by decide +kernel) ?_
                    refine G_lv (L' := [(10, .int z647845), (9, .int z647704), (8, .int z647844), (7, .int g647690), (6, .int z641780), (5, .int z641779), (0, .ref qs641769), (1, .int p641771), (2, .ref q641768), (3, .int p641772), (4, .int 0)]) [0, 2, 1, 3, 4, 5, 6, 7, 8, 9, 10] rfl ?_
                    exact ih76_647827 z647845 z647844 (gB_w bz647845 (by decide) (by decide)) (gB_w bz647844 (by decide) (by decide)) (by have qa0 : Int32.toInt 0 = 0 := (by decide); omega) (by have qa0 : Int32.toInt 0 = 0 := (by decide); omega) (by have qa0 : Int32.toInt 0 = 0 := (by decide); omega) (by have qa0 : Int32.toInt 0 = 0 := (by decide); omega) (by have qa0 : Int32.toInt 0 = 0 := (by decide); omega)
            exact hlp76_647827 (((z647704.toInt : Int) + 2 - z647702.toInt).toNat + 1) 1 z647702 (gB_w (gBl (show Int32.toInt 1 = 1 by decide)) (by decide) (by decide)) (gB_w bz647702 (by decide) (by decide)) (by have qa0 : Int32.toInt 0 = 0 := (by decide); have qa1 : Int32.toInt 1 = 1 := (by decide); omega) (by have qa0 : Int32.toInt 0 = 0 := (by decide); have qa1 : Int32.toInt 1 = 1 := (by decide); omega) (by have qa0 : Int32.toInt 0 = 0 := (by decide); have qa1 : Int32.toInt 1 = 1 := (by decide); omega) (by have qa0 : Int32.toInt 0 = 0 := (by decide); have qa1 : Int32.toInt 1 = 1 := (by decide); omega) (Nat.lt_succ_self _)
        · have r647846 : z647695.toInt ≠ z641779.toInt := gC_ne hc647696
          have hlp30_648458 : ∀ (n30_648458 : Nat) (g648456 : Int32), gB g648456 (-2147483646) 16777215 → 0 ≤ g648456.toInt → g647690.toInt ≤ g648456.toInt → ((z641780.toInt : Int) + 2 - g648456.toInt).toNat < n30_648458 → G (gV D I) l (gRm 0 0 0 0) (gMA (gV D I) (pp_641778_StringLatin1_indexOf D I P641766 F641767 q641768 qs641769 bs641770 p641771 p641772 f641773 n641774) gNA 0 0) ky_641778_StringLatin1_indexOf 30 [(7, .int g648456), (6, .int z641780), (5, .int z641779), (0, .ref qs641769), (1, .int p641771), (2, .ref q641768), (3, .int p641772), (4, .int 0)] [] (va_pl P641766 F641767) 0 0 := by
            intro n30_648458
            induction n30_648458 with
            | zero => intro g648456 bg648456 x648457 x648458 hm30_648458; exact absurd hm30_648458 (Nat.not_lt_zero _)
            | succ n30_648458 ih30_648458 =>
              intro g648456 bg648456 x648457 x648458 hm30_648458
              obtain ⟨z648459, hz648459⟩ : ∃ z : Int32, z = g648456 + Int32.ofInt 1 := ⟨_, rfl⟩
              have ez648459 : z648459.toInt = g648456.toInt + 1 := gI_inc hz648459 (by decide) bg648456 (by decide) (by decide)
              have bz648459 : gB z648459 (-2147483645) 16777216 := ⟨by omega, by omega⟩
              refine G_iinc (L' := [(7, .int z648459), (6, .int z641780), (5, .int z641779), (0, .ref qs641769), (1, .int p641771), (2, .ref q641768), (3, .int p641772), (4, .int 0)]) z648459 0 dr_cJ1_indexOf_5af95_30 rfl hz648459.symm (Nat.le_of_ble_eq_true rfl) rfl ?_
              refine G_iload 0 dr_cJ1_indexOf_5af95_33 rfl ?_
              refine G_iload 1 dr_cJ1_indexOf_5af95_35 rfl ?_
              refine G_icmp_gt 52 dr_cJ1_indexOf_5af95_37 (by decide +kernel) (fun hc648460 => ?_) (fun hc648460 => ?_)
              · have r648461 : z641780.toInt < z648459.toInt := gC_lt hc648460
                have bz648459' : gB z648459 (-16777215) 16777216 := ⟨by omega, by omega⟩
                refine G_iload 0 dr_cJ1_indexOf_5af95_52 rfl ?_
                refine G_iload 1 dr_cJ1_indexOf_5af95_54 rfl ?_
                refine G_icmp_gt 113 dr_cJ1_indexOf_5af95_56 (by decide +kernel) (fun hc648462 => ?_) (fun hc648462 => ?_)
                · have r648463 : z641780.toInt < z648459.toInt := gC_lt hc648462
                  obtain ⟨z648464, hz648464⟩ : ∃ z : Int32, z = z648459 + Int32.ofInt 1 := ⟨_, rfl⟩
                  have ez648464 : z648464.toInt = z648459.toInt + 1 := gI_inc hz648464 (by decide) bz648459' (by decide) (by decide)
                  have bz648464 : gB z648464 (-16777214) 16777217 := ⟨by omega, by omega⟩
                  refine G_iinc (L' := [(7, .int z648464), (6, .int z641780), (5, .int z641779), (0, .ref qs641769), (1, .int p641771), (2, .ref q641768), (3, .int p641772), (4, .int 0)]) z648464 0 dr_cJ1_indexOf_5af95_113 rfl hz648464.symm (Nat.le_of_ble_eq_true rfl) rfl ?_
                  refine G_goto 14 dr_cJ1_indexOf_5af95_116 (by decide +kernel) ?_
                  exact ih14_647691 z648464 (gB_w bz648464 (by decide) (by decide)) (by have qa0 : Int32.toInt 0 = 0 := (by decide); omega) (by have qa0 : Int32.toInt 0 = 0 := (by decide); omega)
                · have r648465 : z648459.toInt ≤ z641780.toInt := gC_nlt hc648462
                  have bz648459'' : gB z648459 (-16777215) 16777215 := ⟨by omega, by omega⟩
                  have bz641780' : gB z641780 (-16777215) 16777215 := ⟨by omega, by omega⟩
                  refine G_iload 0 dr_cJ1_indexOf_5af95_59 rfl ?_
                  refine G_iconst 1 dr_cJ1_indexOf_5af95_61 (by decide +kernel) ?_
                  refine G_iadd dr_cJ1_indexOf_5af95_62 (G_nam fun z648466 hz648466 => ?_)
                  have ez648466 : z648466.toInt = z648459.toInt + 1 := by rw [gI_add hz648466 bz648459'' (gBl (show Int32.toInt 1 = 1 by decide)) (by decide) (by decide), show Int32.toInt 1 = 1 from by decide]
                  have bz648466 : gB z648466 (-16777214) 16777216 := gB_add (gI_add hz648466 bz648459'' (gBl (show Int32.toInt 1 = 1 by decide)) (by decide) (by decide)) bz648459'' (gBl (show Int32.toInt 1 = 1 by decide)) (by decide) (by decide)
                  refine G_istore (L' := [(8, .int z648466), (7, .int z648459), (6, .int z641780), (5, .int z641779), (0, .ref qs641769), (1, .int p641771), (2, .ref q641768), (3, .int p641772), (4, .int 0)]) dr_cJ1_indexOf_5af95_63 (Nat.le_of_ble_eq_true rfl) rfl ?_
                  refine G_iload 0 dr_cJ1_indexOf_5af95_65 rfl ?_
                  refine G_iload_n 7 dr_cJ1_indexOf_5af95_67 rfl ?_
                  refine G_iadd dr_cJ1_indexOf_5af95_68 (G_nam fun z648467 hz648467 => ?_)
                  have ez648467 : z648467.toInt = z648466.toInt + p641772.toInt := by rw [gI_add hz648467 bz648466 bp641772 (by decide) (by decide)]
                  have bz648467 : gB z648467 (-16777213) 33554432 := gB_add (gI_add hz648467 bz648466 bp641772 (by decide) (by decide)) bz648466 bp641772 (by decide) (by decide)
                  refine G_iconst 1 dr_cJ1_indexOf_5af95_69 (by decide +kernel) ?_
                  refine G_isub dr_cJ1_indexOf_5af95_70 (G_nam fun z648468 hz648468 => ?_)
                  have ez648468 : z648468.toInt = z648467.toInt - 1 := by rw [gI_sub hz648468 bz648467 (gBl (show Int32.toInt 1 = 1 by decide)) (by decide) (by decide), show Int32.toInt 1 = 1 from by decide]
                  have bz648468 : gB z648468 (-16777214) 33554431 := gB_sub (gI_sub hz648468 bz648467 (gBl (show Int32.toInt 1 = 1 by decide)) (by decide) (by decide)) bz648467 (gBl (show Int32.toInt 1 = 1 by decide)) (by decide) (by decide)
                  refine G_istore (L' := [(9, .int z648468), (8, .int z648466), (7, .int z648459), (6, .int z641780), (5, .int z641779), (0, .ref qs641769), (1, .int p641771), (2, .ref q641768), (3, .int p641772), (4, .int 0)]) dr_cJ1_indexOf_5af95_71 (Nat.le_of_ble_eq_true rfl) rfl ?_
                  refine G_iconst 1 dr_cJ1_indexOf_5af95_73 (by decide +kernel) ?_
                  refine G_istore (L' := [(10, .int 1), (9, .int z648468), (8, .int z648466), (7, .int z648459), (6, .int z641780), (5, .int z641779), (0, .ref qs641769), (1, .int p641771), (2, .ref q641768), (3, .int p641772), (4, .int 0)]) dr_cJ1_indexOf_5af95_74 (Nat.le_of_ble_eq_true rfl) rfl ?_
                  have hlp76_648591 : ∀ (n76_648591 : Nat) (g648586 : Int32) (g648587 : Int32), gB g648586 1 16777217 → gB g648587 (-16777214) 33554431 → 0 ≤ g648587.toInt → g648586.toInt = g648587.toInt - z648459.toInt → 1 ≤ g648586.toInt → g648587.toInt ≤ z648468.toInt → ((z648468.toInt : Int) + 2 - g648587.toInt).toNat < n76_648591 → G (gV D I) l (gRm 0 0 0 0) (gMA (gV D I) (pp_641778_StringLatin1_indexOf D I P641766 F641767 q641768 qs641769 bs641770 p641771 p641772 f641773 n641774) gNA 0 0) ky_641778_StringLatin1_indexOf 76 [(10, .int g648586), (9, .int z648468), (8, .int g648587), (7, .int z648459), (6, .int z641780), (5, .int z641779), (0, .ref qs641769), (1, .int p641771), (2, .ref q641768), (3, .int p641772), (4, .int 0)] [] (va_pl P641766 F641767) 0 0 := by
                    intro n76_648591
                    induction n76_648591 with
                    | zero => intro g648586 g648587 bg648586 bg648587 x648588 x648589 x648590 x648591 hm76_648591; exact absurd hm76_648591 (Nat.not_lt_zero _)
                    | succ n76_648591 ih76_648591 =>
                      intro g648586 g648587 bg648586 bg648587 x648588 x648589 x648590 x648591 hm76_648591
                      refine G_iload 2 dr_cJ1_indexOf_5af95_76 rfl ?_
                      refine G_iload 1 dr_cJ1_indexOf_5af95_78 rfl ?_
                      refine G_icmp_ge 103 dr_cJ1_indexOf_5af95_80 (by decide +kernel) (fun hc648592 => ?_) (fun hc648592 => ?_)
                      · have r648593 : z648468.toInt ≤ g648587.toInt := gC_le hc648592
                        refine G_iload 2 dr_cJ1_indexOf_5af95_103 rfl ?_
                        refine G_iload 1 dr_cJ1_indexOf_5af95_105 rfl ?_
                        refine G_icmp_ne 113 dr_cJ1_indexOf_5af95_107 (by decide +kernel) (fun hc648594 => ?_) (fun hc648594 => ?_)
                        · have r648595 : g648587.toInt ≠ z648468.toInt := gC_ne hc648594
                          obtain ⟨z648596, hz648596⟩ : ∃ z : Int32, z = z648459 + Int32.ofInt 1 := ⟨_, rfl⟩
                          have ez648596 : z648596.toInt = z648459.toInt + 1 := gI_inc hz648596 (by decide) bz648459'' (by decide) (by decide)
                          have bz648596 : gB z648596 (-16777214) 16777216 := ⟨by omega, by omega⟩
                          refine G_iinc (L' := [(7, .int z648596), (10, .int g648586), (9, .int z648468), (8, .int g648587), (6, .int z641780), (5, .int z641779), (0, .ref qs641769), (1, .int p641771), (2, .ref q641768), (3, .int p641772), (4, .int 0)]) z648596 3 dr_cJ1_indexOf_5af95_113 rfl hz648596.symm (Nat.le_of_ble_eq_true rfl) rfl ?_
                          refine G_goto 14 dr_cJ1_indexOf_5af95_116 (by decide +kernel) ?_
                          refine G_lv (L' := [(7, .int z648596), (6, .int z641780), (5, .int z641779), (0, .ref qs641769), (1, .int p641771), (2, .ref q641768), (3, .int p641772), (4, .int 0)]) [0, 4, 5, 6, 7, 8, 9, 10] rfl ?_
                          exact ih14_647691 z648596 (gB_w bz648596 (by decide) (by decide)) (by have qa0 : Int32.toInt 0 = 0 := (by decide); omega) (by have qa0 : Int32.toInt 0 = 0 := (by decide); omega)
                        · have r648597 : g648587.toInt = z648468.toInt := gC_eq hc648594
                          refine G_iload 3 dr_cJ1_indexOf_5af95_110 rfl ?_
                          exact G_iretA dr_cJ1_indexOf_5af95_112 rfl (Nat.le_of_ble_eq_true rfl) (Nat.le_of_ble_eq_true rfl) ⟨z648459, rfl, rfl, (Nat.le_of_ble_eq_true rfl), (Nat.le_of_ble_eq_true rfl), (gB_w bz648459'' (by decide) (by decide)), (by have qa0 : Int32.toInt 0 = 0 := (by decide); omega), (by first | exact ixP_of (by assumption) (by assumption) (by omega) | exact absurd (show False by omega) not_false)⟩
                      · have r648598 : g648587.toInt < z648468.toInt := gC_nle hc648592
                        have bg648587' : gB g648587 (-16777214) 33554430 := ⟨by omega, by omega⟩
                        have bz648468' : gB z648468 (-16777213) 33554431 := ⟨by omega, by omega⟩
                        refine G_aload_n 6 dr_cJ1_indexOf_5af95_83 rfl ?_
                        refine G_iload 2 dr_cJ1_indexOf_5af95_84 rfl ?_
                        refine G_kbald (f := fun j => bs641770.getD j 0) dr_cJ1_indexOf_5af95_86 hbs641770 (gB_inr (by omega) (by omega)) (G_nam fun z648599 hz648599 => ?_)
                        have bz648599 : gB z648599 (-2147483648) 2147483647 := gB_any z648599
                        refine G_aload_n 8 dr_cJ1_indexOf_5af95_87 rfl ?_
                        refine G_iload 0 dr_cJ1_indexOf_5af95_88 rfl ?_
                        refine Gp_bald 1 hmq641768 heq641768 dr_cJ1_indexOf_5af95_90 rfl (gB_inr (by omega) (by omega)) (G_nam fun z648600 hz648600 => ?_)
                        have bz648600 : gB z648600 (-128) 127 := by rw [hz648600]; exact bf641773 _
                        refine G_icmp_ne 103 dr_cJ1_indexOf_5af95_91 (by decide +kernel) (fun hc648601 => ?_) (fun hc648601 => ?_)
                        · have r648602 : z648599.toInt ≠ z648600.toInt := gC_ne hc648601
                          refine G_iload 2 dr_cJ1_indexOf_5af95_103 rfl ?_
                          refine G_iload 1 dr_cJ1_indexOf_5af95_105 rfl ?_
                          refine G_icmp_ne 113 dr_cJ1_indexOf_5af95_107 (by decide +kernel) (fun hc648603 => ?_) (fun hc648603 => ?_)
                          · have r648604 : g648587.toInt ≠ z648468.toInt := gC_ne hc648603
                            obtain ⟨z648605, hz648605⟩ : ∃ z : Int32, z = z648459 + Int32.ofInt 1 := ⟨_, rfl⟩
                            have ez648605 : z648605.toInt = z648459.toInt + 1 := gI_inc hz648605 (by decide) bz648459'' (by decide) (by decide)
                            have bz648605 : gB z648605 (-16777214) 16777216 := ⟨by omega, by omega⟩
                            refine G_iinc (L' := [(7, .int z648605), (10, .int g648586), (9, .int z648468), (8, .int g648587), (6, .int z641780), (5, .int z641779), (0, .ref qs641769), (1, .int p641771), (2, .ref q641768), (3, .int p641772), (4, .int 0)]) z648605 3 dr_cJ1_indexOf_5af95_113 rfl hz648605.symm (Nat.le_of_ble_eq_true rfl) rfl ?_
                            refine G_goto 14 dr_cJ1_indexOf_5af95_116 (by decide +kernel) ?_
                            refine G_lv (L' := [(7, .int z648605), (6, .int z641780), (5, .int z641779), (0, .ref qs641769), (1, .int p641771), (2, .ref q641768), (3, .int p641772), (4, .int 0)]) [0, 4, 5, 6, 7, 8, 9, 10] rfl ?_
                            exact ih14_647691 z648605 (gB_w bz648605 (by decide) (by decide)) (by have qa0 : Int32.toInt 0 = 0 := (by decide); omega) (by have qa0 : Int32.toInt 0 = 0 := (by decide); omega)
                          · have r648606 : g648587.toInt = z648468.toInt := gC_eq hc648603
                            have bg648587'' : gB g648587 (-16777213) 33554430 := ⟨by omega, by omega⟩
                            have bz648468'' : gB z648468 (-16777213) 33554430 := ⟨by omega, by omega⟩
                            refine G_iload 3 dr_cJ1_indexOf_5af95_110 rfl ?_
                            exact G_iretA dr_cJ1_indexOf_5af95_112 rfl (Nat.le_of_ble_eq_true rfl) (Nat.le_of_ble_eq_true rfl) ⟨z648459, rfl, rfl, (Nat.le_of_ble_eq_true rfl), (Nat.le_of_ble_eq_true rfl), (gB_w bz648459'' (by decide) (by decide)), (by have qa0 : Int32.toInt 0 = 0 := (by decide); omega), (by first | exact ixP_of (by assumption) (by assumption) (by omega) | exact absurd (show False by omega) not_false)⟩
                        · have r648607 : z648599.toInt = z648600.toInt := gC_eq hc648601
                          have bz648599' : gB z648599 (-128) 127 := ⟨by omega, by omega⟩
                          obtain ⟨z648608, hz648608⟩ : ∃ z : Int32, z = g648587 + Int32.ofInt 1 := ⟨_, rfl⟩
                          have ez648608 : z648608.toInt = g648587.toInt + 1 := gI_inc hz648608 (by decide) bg648587' (by decide) (by decide)
                          have bz648608 : gB z648608 (-16777213) 33554431 := ⟨by omega, by omega⟩
                          refine G_iinc (L' := [(8, .int z648608), (10, .int g648586), (9, .int z648468), (7, .int z648459), (6, .int z641780), (5, .int z641779), (0, .ref qs641769), (1, .int p641771), (2, .ref q641768), (3, .int p641772), (4, .int 0)]) z648608 2 dr_cJ1_indexOf_5af95_94 rfl hz648608.symm (Nat.le_of_ble_eq_true rfl) rfl ?_
                          have bg648586' : gB g648586 1 16777216 := ⟨by omega, by omega⟩
                          obtain ⟨z648609, hz648609⟩ : ∃ z : Int32, z = g648586 + Int32.ofInt 1 := ⟨_, rfl⟩
                          have ez648609 : z648609.toInt = g648586.toInt + 1 := gI_inc hz648609 (by decide) bg648586' (by decide) (by decide)
                          have bz648609 : gB z648609 2 16777217 := ⟨by omega, by omega⟩
                          refine G_iinc (L' := [(10, .int z648609), (8, .int z648608), (9, .int z648468), (7, .int z648459), (6, .int z641780), (5, .int z641779), (0, .ref qs641769), (1, .int p641771), (2, .ref q641768), (3, .int p641772), (4, .int 0)]) z648609 1 dr_cJ1_indexOf_5af95_97 rfl hz648609.symm (Nat.le_of_ble_eq_true rfl) rfl ?_
                          refine G_goto 76 dr_cJ1_indexOf_5af95_100 (by decide +kernel) ?_
                          refine G_lv (L' := [(10, .int z648609), (9, .int z648468), (8, .int z648608), (7, .int z648459), (6, .int z641780), (5, .int z641779), (0, .ref qs641769), (1, .int p641771), (2, .ref q641768), (3, .int p641772), (4, .int 0)]) [0, 2, 1, 3, 4, 5, 6, 7, 8, 9, 10] rfl ?_
                          exact ih76_648591 z648609 z648608 (gB_w bz648609 (by decide) (by decide)) (gB_w bz648608 (by decide) (by decide)) (by have qa0 : Int32.toInt 0 = 0 := (by decide); omega) (by have qa0 : Int32.toInt 0 = 0 := (by decide); omega) (by have qa0 : Int32.toInt 0 = 0 := (by decide); omega) (by have qa0 : Int32.toInt 0 = 0 := (by decide); omega) (by have qa0 : Int32.toInt 0 = 0 := (by decide); omega)
                  exact hlp76_648591 (((z648468.toInt : Int) + 2 - z648466.toInt).toNat + 1) 1 z648466 (gB_w (gBl (show Int32.toInt 1 = 1 by decide)) (by decide) (by decide)) (gB_w bz648466 (by decide) (by decide)) (by have qa0 : Int32.toInt 0 = 0 := (by decide); have qa1 : Int32.toInt 1 = 1 := (by decide); omega) (by have qa0 : Int32.toInt 0 = 0 := (by decide); have qa1 : Int32.toInt 1 = 1 := (by decide); omega) (by have qa0 : Int32.toInt 0 = 0 := (by decide); have qa1 : Int32.toInt 1 = 1 := (by decide); omega) (by have qa0 : Int32.toInt 0 = 0 := (by decide); have qa1 : Int32.toInt 1 = 1 := (by decide); omega) (Nat.lt_succ_self _)
              · have r648610 : z648459.toInt ≤ z641780.toInt := gC_nlt hc648460
                have bz648459' : gB z648459 (-2147483645) 16777215 := ⟨by omega, by omega⟩
                refine G_aload_n 3 dr_cJ1_indexOf_5af95_40 rfl ?_
                refine G_iload 0 dr_cJ1_indexOf_5af95_41 rfl ?_
                refine G_kbald (f := fun j => bs641770.getD j 0) dr_cJ1_indexOf_5af95_43 hbs641770 (gB_inr (by omega) (by omega)) (G_nam fun z648611 hz648611 => ?_)
                have bz648611 : gB z648611 (-2147483648) 2147483647 := gB_any z648611
                refine G_iload 2 dr_cJ1_indexOf_5af95_44 rfl ?_
                refine G_icmp_eq 52 dr_cJ1_indexOf_5af95_46 (by decide +kernel) (fun hc648612 => ?_) (fun hc648612 => ?_)
                · have r648613 : z648611.toInt = z641779.toInt := gC_eq hc648612
                  have bz648611' : gB z648611 (-128) 127 := ⟨by omega, by omega⟩
                  refine G_iload 0 dr_cJ1_indexOf_5af95_52 rfl ?_
                  refine G_iload 1 dr_cJ1_indexOf_5af95_54 rfl ?_
                  refine G_icmp_gt 113 dr_cJ1_indexOf_5af95_56 (by decide +kernel) (fun hc648614 => ?_) (fun hc648614 => ?_)
                  · have r648615 : z641780.toInt < z648459.toInt := gC_lt hc648614
                    have bz641780' : gB z641780 (-16777216) 16777214 := ⟨by omega, by omega⟩
                    have bz648459'' : gB z648459 (-16777215) 16777215 := ⟨by omega, by omega⟩
                    obtain ⟨z648616, hz648616⟩ : ∃ z : Int32, z = z648459 + Int32.ofInt 1 := ⟨_, rfl⟩
                    have ez648616 : z648616.toInt = z648459.toInt + 1 := gI_inc hz648616 (by decide) bz648459'' (by decide) (by decide)
                    have bz648616 : gB z648616 (-16777214) 16777216 := ⟨by omega, by omega⟩
                    refine G_iinc (L' := [(7, .int z648616), (6, .int z641780), (5, .int z641779), (0, .ref qs641769), (1, .int p641771), (2, .ref q641768), (3, .int p641772), (4, .int 0)]) z648616 0 dr_cJ1_indexOf_5af95_113 rfl hz648616.symm (Nat.le_of_ble_eq_true rfl) rfl ?_
                    refine G_goto 14 dr_cJ1_indexOf_5af95_116 (by decide +kernel) ?_
                    exact ih14_647691 z648616 (gB_w bz648616 (by decide) (by decide)) (by have qa0 : Int32.toInt 0 = 0 := (by decide); omega) (by have qa0 : Int32.toInt 0 = 0 := (by decide); omega)
                  · have r648617 : z648459.toInt ≤ z641780.toInt := gC_nlt hc648614
                    refine G_iload 0 dr_cJ1_indexOf_5af95_59 rfl ?_
                    refine G_iconst 1 dr_cJ1_indexOf_5af95_61 (by decide +kernel) ?_
                    refine G_iadd dr_cJ1_indexOf_5af95_62 (G_nam fun z648618 hz648618 => ?_)
                    have ez648618 : z648618.toInt = z648459.toInt + 1 := by rw [gI_add hz648618 bz648459' (gBl (show Int32.toInt 1 = 1 by decide)) (by decide) (by decide), show Int32.toInt 1 = 1 from by decide]
                    have bz648618 : gB z648618 (-2147483644) 16777216 := gB_add (gI_add hz648618 bz648459' (gBl (show Int32.toInt 1 = 1 by decide)) (by decide) (by decide)) bz648459' (gBl (show Int32.toInt 1 = 1 by decide)) (by decide) (by decide)
                    refine G_istore (L' := [(8, .int z648618), (7, .int z648459), (6, .int z641780), (5, .int z641779), (0, .ref qs641769), (1, .int p641771), (2, .ref q641768), (3, .int p641772), (4, .int 0)]) dr_cJ1_indexOf_5af95_63 (Nat.le_of_ble_eq_true rfl) rfl ?_
                    refine G_iload 0 dr_cJ1_indexOf_5af95_65 rfl ?_
                    refine G_iload_n 7 dr_cJ1_indexOf_5af95_67 rfl ?_
                    refine G_iadd dr_cJ1_indexOf_5af95_68 (G_nam fun z648619 hz648619 => ?_)
                    have ez648619 : z648619.toInt = z648618.toInt + p641772.toInt := by rw [gI_add hz648619 bz648618 bp641772 (by decide) (by decide)]
                    have bz648619 : gB z648619 (-2147483643) 33554432 := gB_add (gI_add hz648619 bz648618 bp641772 (by decide) (by decide)) bz648618 bp641772 (by decide) (by decide)
                    refine G_iconst 1 dr_cJ1_indexOf_5af95_69 (by decide +kernel) ?_
                    refine G_isub dr_cJ1_indexOf_5af95_70 (G_nam fun z648620 hz648620 => ?_)
                    have ez648620 : z648620.toInt = z648619.toInt - 1 := by rw [gI_sub hz648620 bz648619 (gBl (show Int32.toInt 1 = 1 by decide)) (by decide) (by decide), show Int32.toInt 1 = 1 from by decide]
                    have bz648620 : gB z648620 (-2147483644) 33554431 := gB_sub (gI_sub hz648620 bz648619 (gBl (show Int32.toInt 1 = 1 by decide)) (by decide) (by decide)) bz648619 (gBl (show Int32.toInt 1 = 1 by decide)) (by decide) (by decide)
                    refine G_istore (L' := [(9, .int z648620), (8, .int z648618), (7, .int z648459), (6, .int z641780), (5, .int z641779), (0, .ref qs641769), (1, .int p641771), (2, .ref q641768), (3, .int p641772), (4, .int 0)]) dr_cJ1_indexOf_5af95_71 (Nat.le_of_ble_eq_true rfl) rfl ?_
                    refine G_iconst 1 dr_cJ1_indexOf_5af95_73 (by decide +kernel) ?_
                    refine G_istore (L' := [(10, .int 1), (9, .int z648620), (8, .int z648618), (7, .int z648459), (6, .int z641780), (5, .int z641779), (0, .ref qs641769), (1, .int p641771), (2, .ref q641768), (3, .int p641772), (4, .int 0)]) dr_cJ1_indexOf_5af95_74 (Nat.le_of_ble_eq_true rfl) rfl ?_
                    have hlp76_648743 : ∀ (n76_648743 : Nat) (g648738 : Int32) (g648739 : Int32), gB g648738 1 16777217 → gB g648739 (-2147483644) 33554431 → 0 ≤ g648739.toInt → g648738.toInt = g648739.toInt - z648459.toInt → 1 ≤ g648738.toInt → g648739.toInt ≤ z648620.toInt → ((z648620.toInt : Int) + 2 - g648739.toInt).toNat < n76_648743 → G (gV D I) l (gRm 0 0 0 0) (gMA (gV D I) (pp_641778_StringLatin1_indexOf D I P641766 F641767 q641768 qs641769 bs641770 p641771 p641772 f641773 n641774) gNA 0 0) ky_641778_StringLatin1_indexOf 76 [(10, .int g648738), (9, .int z648620), (8, .int g648739), (7, .int z648459), (6, .int z641780), (5, .int z641779), (0, .ref qs641769), (1, .int p641771), (2, .ref q641768), (3, .int p641772), (4, .int 0)] [] (va_pl P641766 F641767) 0 0 := by
                      intro n76_648743
                      induction n76_648743 with
                      | zero => intro g648738 g648739 bg648738 bg648739 x648740 x648741 x648742 x648743 hm76_648743; exact absurd hm76_648743 (Nat.not_lt_zero _)
                      | succ n76_648743 ih76_648743 =>
                        intro g648738 g648739 bg648738 bg648739 x648740 x648741 x648742 x648743 hm76_648743
                        refine G_iload 2 dr_cJ1_indexOf_5af95_76 rfl ?_
                        refine G_iload 1 dr_cJ1_indexOf_5af95_78 rfl ?_
                        refine G_icmp_ge 103 dr_cJ1_indexOf_5af95_80 (by decide +kernel) (fun hc648744 => ?_) (fun hc648744 => ?_)
                        · have r648745 : z648620.toInt ≤ g648739.toInt := gC_le hc648744
                          refine G_iload 2 dr_cJ1_indexOf_5af95_103 rfl ?_
                          refine G_iload 1 dr_cJ1_indexOf_5af95_105 rfl ?_
                          refine G_icmp_ne 113 dr_cJ1_indexOf_5af95_107 (by decide +kernel) (fun hc648746 => ?_) (fun hc648746 => ?_)
                          · have r648747 : g648739.toInt ≠ z648620.toInt := gC_ne hc648746
                            obtain ⟨z648748, hz648748⟩ : ∃ z : Int32, z = z648459 + Int32.ofInt 1 := ⟨_, rfl⟩
                            have ez648748 : z648748.toInt = z648459.toInt + 1 := gI_inc hz648748 (by decide) bz648459' (by decide) (by decide)
                            have bz648748 : gB z648748 (-2147483644) 16777216 := ⟨by omega, by omega⟩
                            refine G_iinc (L' := [(7, .int z648748), (10, .int g648738), (9, .int z648620), (8, .int g648739), (6, .int z641780), (5, .int z641779), (0, .ref qs641769), (1, .int p641771), (2, .ref q641768), (3, .int p641772), (4, .int 0)]) z648748 3 dr_cJ1_indexOf_5af95_113 rfl hz648748.symm (Nat.le_of_ble_eq_true rfl) rfl ?_
                            refine G_goto 14 dr_cJ1_indexOf_5af95_116 (by decide +kernel) ?_
                            refine G_lv (L' := [(7, .int z648748), (6, .int z641780), (5, .int z641779), (0, .ref qs641769), (1, .int p641771), (2, .ref q641768), (3, .int p641772), (4, .int 0)]) [0, 4, 5, 6, 7, 8, 9, 10] rfl ?_
                            exact ih14_647691 z648748 (gB_w bz648748 (by decide) (by decide)) (by have qa0 : Int32.toInt 0 = 0 := (by decide); omega) (by have qa0 : Int32.toInt 0 = 0 := (by decide); omega)
                          · have r648749 : g648739.toInt = z648620.toInt := gC_eq hc648746
                            refine G_iload 3 dr_cJ1_indexOf_5af95_110 rfl ?_
                            exact G_iretA dr_cJ1_indexOf_5af95_112 rfl (Nat.le_of_ble_eq_true rfl) (Nat.le_of_ble_eq_true rfl) ⟨z648459, rfl, rfl, (Nat.le_of_ble_eq_true rfl), (Nat.le_of_ble_eq_true rfl), (gB_w bz648459' (by decide) (by decide)), (by have qa0 : Int32.toInt 0 = 0 := (by decide); omega), (by first | exact ixP_of (by assumption) (by assumption) (by omega) | exact absurd (show False by omega) not_false)⟩
                        · have r648750 : g648739.toInt < z648620.toInt := gC_nle hc648744
                          have bg648739' : gB g648739 (-2147483644) 33554430 := ⟨by omega, by omega⟩
                          have bz648620' : gB z648620 (-2147483643) 33554431 := ⟨by omega, by omega⟩
                          refine G_aload_n 6 dr_cJ1_indexOf_5af95_83 rfl ?_
                          refine G_iload 2 dr_cJ1_indexOf_5af95_84 rfl ?_
                          refine G_kbald (f := fun j => bs641770.getD j 0) dr_cJ1_indexOf_5af95_86 hbs641770 (gB_inr (by omega) (by omega)) (G_nam fun z648751 hz648751 => ?_)
                          have bz648751 : gB z648751 (-2147483648) 2147483647 := gB_any z648751
                          refine G_aload_n 8 dr_cJ1_indexOf_5af95_87 rfl ?_
                          refine G_iload 0 dr_cJ1_indexOf_5af95_88 rfl ?_
                          refine Gp_bald 1 hmq641768 heq641768 dr_cJ1_indexOf_5af95_90 rfl (gB_inr (by omega) (by omega)) (G_nam fun z648752 hz648752 => ?_)
                          have bz648752 : gB z648752 (-128) 127 := by rw [hz648752]; exact bf641773 _
                          refine G_icmp_ne 103 dr_cJ1_indexOf_5af95_91 (by decide +kernel) (fun hc648753 => ?_) (fun hc648753 => ?_)
                          · have r648754 : z648751.toInt ≠ z648752.toInt := gC_ne hc648753
                            refine G_iload 2 dr_cJ1_indexOf_5af95_103 rfl ?_
                            refine G_iload 1 dr_cJ1_indexOf_5af95_105 rfl ?_
                            refine G_icmp_ne 113 dr_cJ1_indexOf_5af95_107 (by decide +kernel) (fun hc648755 => ?_) (fun hc648755 => ?_)
                            · have r648756 : g648739.toInt ≠ z648620.toInt := gC_ne hc648755
                              obtain ⟨z648757, hz648757⟩ : ∃ z : Int32, z = z648459 + Int32.ofInt 1 := ⟨_, rfl⟩
                              have ez648757 : z648757.toInt = z648459.toInt + 1 := gI_inc hz648757 (by decide) bz648459' (by decide) (by decide)
                              have bz648757 : gB z648757 (-2147483644) 16777216 := ⟨by omega, by omega⟩
                              refine G_iinc (L' := [(7, .int z648757), (10, .int g648738), (9, .int z648620), (8, .int g648739), (6, .int z641780), (5, .int z641779), (0, .ref qs641769), (1, .int p641771), (2, .ref q641768), (3, .int p641772), (4, .int 0)]) z648757 3 dr_cJ1_indexOf_5af95_113 rfl hz648757.symm (Nat.le_of_ble_eq_true rfl) rfl ?_
                              refine G_goto 14 dr_cJ1_indexOf_5af95_116 (by decide +kernel) ?_
                              refine G_lv (L' := [(7, .int z648757), (6, .int z641780), (5, .int z641779), (0, .ref qs641769), (1, .int p641771), (2, .ref q641768), (3, .int p641772), (4, .int 0)]) [0, 4, 5, 6, 7, 8, 9, 10] rfl ?_
                              exact ih14_647691 z648757 (gB_w bz648757 (by decide) (by decide)) (by have qa0 : Int32.toInt 0 = 0 := (by decide); omega) (by have qa0 : Int32.toInt 0 = 0 := (by decide); omega)
                            · have r648758 : g648739.toInt = z648620.toInt := gC_eq hc648755
                              have bg648739'' : gB g648739 (-2147483643) 33554430 := ⟨by omega, by omega⟩
                              have bz648620'' : gB z648620 (-2147483643) 33554430 := ⟨by omega, by omega⟩
                              refine G_iload 3 dr_cJ1_indexOf_5af95_110 rfl ?_
                              exact G_iretA dr_cJ1_indexOf_5af95_112 rfl (Nat.le_of_ble_eq_true rfl) (Nat.le_of_ble_eq_true rfl) ⟨z648459, rfl, rfl, (Nat.le_of_ble_eq_true rfl), (Nat.le_of_ble_eq_true rfl), (gB_w bz648459' (by decide) (by decide)), (by have qa0 : Int32.toInt 0 = 0 := (by decide); omega), (by first | exact ixP_of (by assumption) (by assumption) (by omega) | exact absurd (show False by omega) not_false)⟩
                          · have r648759 : z648751.toInt = z648752.toInt := gC_eq hc648753
                            have bz648751' : gB z648751 (-128) 127 := ⟨by omega, by omega⟩
                            obtain ⟨z648760, hz648760⟩ : ∃ z : Int32, z = g648739 + Int32.ofInt 1 := ⟨_, rfl⟩
                            have ez648760 : z648760.toInt = g648739.toInt + 1 := gI_inc hz648760 (by decide) bg648739' (by decide) (by decide)
                            have bz648760 : gB z648760 (-2147483643) 33554431 := ⟨by omega, by omega⟩
                            refine G_iinc (L' := [(8, .int z648760), (10, .int g648738), (9, .int z648620), (7, .int z648459), (6, .int z641780), (5, .int z641779), (0, .ref qs641769), (1, .int p641771), (2, .ref q641768), (3, .int p641772), (4, .int 0)]) z648760 2 dr_cJ1_indexOf_5af95_94 rfl hz648760.symm (Nat.le_of_ble_eq_true rfl) rfl ?_
                            have bg648738' : gB g648738 1 16777216 := ⟨by omega, by omega⟩
                            obtain ⟨z648761, hz648761⟩ : ∃ z : Int32, z = g648738 + Int32.ofInt 1 := ⟨_, rfl⟩
                            have ez648761 : z648761.toInt = g648738.toInt + 1 := gI_inc hz648761 (by decide) bg648738' (by decide) (by decide)
                            have bz648761 : gB z648761 2 16777217 := ⟨by omega, by omega⟩
                            refine G_iinc (L' := [(10, .int z648761), (8, .int z648760), (9, .int z648620), (7, .int z648459), (6, .int z641780), (5, .int z641779), (0, .ref qs641769), (1, .int p641771), (2, .ref q641768), (3, .int p641772), (4, .int 0)]) z648761 1 dr_cJ1_indexOf_5af95_97 rfl hz648761.symm (Nat.le_of_ble_eq_true rfl) rfl ?_
                            refine G_goto 76 dr_cJ1_indexOf_5af95_100 (by decide +kernel) ?_
                            refine G_lv (L' := [(10, .int z648761), (9, .int z648620), (8, .int z648760), (7, .int z648459), (6, .int z641780), (5, .int z641779), (0, .ref qs641769), (1, .int p641771), (2, .ref q641768), (3, .int p641772), (4, .int 0)]) [0, 2, 1, 3, 4, 5, 6, 7, 8, 9, 10] rfl ?_
                            exact ih76_648743 z648761 z648760 (gB_w bz648761 (by decide) (by decide)) (gB_w bz648760 (by decide) (by decide)) (by have qa0 : Int32.toInt 0 = 0 := (by decide); omega) (by have qa0 : Int32.toInt 0 = 0 := (by decide); omega) (by have qa0 : Int32.toInt 0 = 0 := (by decide); omega) (by have qa0 : Int32.toInt 0 = 0 := (by decide); omega) (by have qa0 : Int32.toInt 0 = 0 := (by decide); omega)
                    exact hlp76_648743 (((z648620.toInt : Int) + 2 - z648618.toInt).toNat + 1) 1 z648618 (gB_w (gBl (show Int32.toInt 1 = 1 by decide)) (by decide) (by decide)) (gB_w bz648618 (by decide) (by decide)) (by have qa0 : Int32.toInt 0 = 0 := (by decide); have qa1 : Int32.toInt 1 = 1 := (by decide); omega) (by have qa0 : Int32.toInt 0 = 0 := (by decide); have qa1 : Int32.toInt 1 = 1 := (by decide); omega) (by have qa0 : Int32.toInt 0 = 0 := (by decide); have qa1 : Int32.toInt 1 = 1 := (by decide); omega) (by have qa0 : Int32.toInt 0 = 0 := (by decide); have qa1 : Int32.toInt 1 = 1 := (by decide); omega) (Nat.lt_succ_self _)
                · have r648762 : z648611.toInt ≠ z641779.toInt := gC_ne hc648612
                  refine G_goto 30 dr_cJ1_indexOf_5af95_49 (by decide +kernel) ?_
                  exact ih30_648458 z648459 (gB_w bz648459' (by decide) (by decide)) (by have qa0 : Int32.toInt 0 = 0 := (by decide); omega) (by have qa0 : Int32.toInt 0 = 0 := (by decide); omega) (by have qa0 : Int32.toInt 0 = 0 := (by decide); omega)
          exact hlp30_648458 (((z641780.toInt : Int) + 2 - g647690.toInt).toNat + 1) g647690 bg647690' (by have qa0 : Int32.toInt 0 = 0 := (by decide); omega) (by have qa0 : Int32.toInt 0 = 0 := (by decide); omega) (Nat.lt_succ_self _)
  exact hlp14_647691 (((z641780.toInt : Int) + 2 - 0).toNat + 1) 0 (gB_w (gBl (show Int32.toInt 0 = 0 by decide)) (by decide) (by decide)) (by have qa0 : Int32.toInt 0 = 0 := (by decide); omega) (Nat.lt_succ_self _)
abbrev ky_641756_StringLatin1_indexOf : gKey := (cJ1_indexOf_b82b6, 2, "java/lang/StringLatin1", (some FieldType.int), [], "indexOf", fun _ _ => True)
def pp_641756_StringLatin1_indexOf (D : va_G) (I : FieldType → ClassId) (P641747 : List Nat) (F641748 : Nat → va_E) (q641749 : Nat) (qs641750 : Nat) (bs641751 : List Int32) (f641752 : Nat → Int32) (n641753 : Nat) : Option Value → va_W → Nat → Nat → Prop := fun r w dc ds => ∃ (o648773 : Int32), r = some (.int o648773) ∧ w = va_pl P641747 F641748 ∧ dc ≤ 0 ∧ ds ≤ 0 ∧ gB o648773 (-2147483646) 16777215 ∧ (o648773.toInt < 0 ∨ o648773.toInt + (n641753 : Int) ≤ (bs641751.length : Int)) ∧ ixP (fun j => bs641751.getD j 0) f641752 o648773
set_option maxRecDepth 100000 in
set_option maxHeartbeats 4000000 in
theorem cp_641756_StringLatin1_indexOf (l : Launch) (hl0 : l.stackTraces = false) (D : va_G) (I : FieldType → ClassId) (P641747 : List Nat) (F641748 : Nat → va_E) (q641749 : Nat) (qs641750 : Nat) (bs641751 : List Int32) (f641752 : Nat → Int32) (n641753 : Nat) (hmq641749 : q641749 ∈ P641747) (heq641749 : F641748 q641749 = .inl (I .byte, n641753, .inl f641752)) (hbs641751 : ∀ A s H, (gV D I).2.2.2.1 A s H → va_T .byte qs641750 bs641751.length (fun j => .int (bs641751.getD j 0)) A s H) (nbs641751 : (bs641751.length : Int) ≤ 65535) (lbs641751 : gLB bs641751) (bf641752 : gF f641752 (-128) 127) (x641754 : 1 ≤ (n641753 : Int)) (x641755 : ((n641753 : Int) ≤ 16777216)) : CtA (gV D I) l yJ1_indexOf_b82b6 cJ1_indexOf_b82b6 2 (some FieldType.int) 1 30 0 0 [.ref qs641750, .ref q641749] (va_pl P641747 F641748) (pp_641756_StringLatin1_indexOf D I P641747 F641748 q641749 qs641750 bs641751 f641752 n641753) gNA := by
  refine CtA_ofF hl0 (by decide +kernel) (Nat.le_of_ble_eq_true rfl) ?_
  refine G_aload_n 1 dr_cJ1_indexOf_b82b6_0 rfl ?_
  refine Gp_alen (Int32.ofNat n641753) 1 hmq641749 heq641749 dr_cJ1_indexOf_b82b6_1 rfl rfl (G_nam fun z641757 hz641757 => ?_)
  have ez641757 : z641757.toInt = (n641753 : Nat) := gI_ofM hz641757 (by omega)
  have bz641757 : gB z641757 0 16777216 := ⟨by omega, by omega⟩
  refine G_if_ne 7 dr_cJ1_indexOf_b82b6_2 (by decide +kernel) (fun hc641758 => ?_) (fun hc => absurd (show False by have := gj_eq hc (show Int32.toInt 0 = 0 by decide); omega) not_false)
  have r641760 : z641757.toInt ≠ 0 := gj_neq hc641758 (show Int32.toInt 0 = 0 by decide)
  have bz641757' : gB z641757 1 16777216 := ⟨by omega, by omega⟩
  refine G_aload_n 0 dr_cJ1_indexOf_b82b6_7 rfl ?_
  refine G_klen dr_cJ1_indexOf_b82b6_8 hbs641751 (G_nam fun z641761 hz641761 => ?_)
  have ez641761 : z641761.toInt = (bs641751.length : Int) := gI_ofN hz641761 nbs641751
  have bz641761 : gB z641761 0 65535 := ⟨by omega, by omega⟩
  refine G_if_ne 14 dr_cJ1_indexOf_b82b6_9 (by decide +kernel) (fun hc641762 => ?_) (fun hc641762 => ?_)
  · have r641763 : z641761.toInt ≠ 0 := gj_neq hc641762 (show Int32.toInt 0 = 0 by decide)
    have bz641761' : gB z641761 1 65535 := ⟨by omega, by omega⟩
    refine G_aload_n 0 dr_cJ1_indexOf_b82b6_14 rfl ?_
    refine G_aload_n 0 dr_cJ1_indexOf_b82b6_15 rfl ?_
    refine G_klen dr_cJ1_indexOf_b82b6_16 hbs641751 (G_nam fun z641764 hz641764 => ?_)
    have ez641764 : z641764.toInt = (bs641751.length : Int) := gI_ofN hz641764 nbs641751
    have bz641764 : gB z641764 0 65535 := ⟨by omega, by omega⟩
    refine G_aload_n 1 dr_cJ1_indexOf_b82b6_17 rfl ?_
    refine G_aload_n 1 dr_cJ1_indexOf_b82b6_18 rfl ?_
    refine Gp_alen (Int32.ofNat n641753) 1 hmq641749 heq641749 dr_cJ1_indexOf_b82b6_19 rfl rfl (G_nam fun z641765 hz641765 => ?_)
    have ez641765 : z641765.toInt = (n641753 : Nat) := gI_ofM hz641765 (by omega)
    have bz641765 : gB z641765 0 16777216 := ⟨by omega, by omega⟩
    refine G_iconst 0 dr_cJ1_indexOf_b82b6_20 (by decide +kernel) ?_
    refine Gw_callS (As := [.ref qs641750, .int z641764, .ref q641749, .int z641765, .int 0]) (gV_ok D I) (cp_641778_StringLatin1_indexOf l hl0 D I P641747 F641748 q641749 qs641750 bs641751 z641764 z641765 f641752 n641753 hmq641749 heq641749 hbs641751 nbs641751 lbs641751 (gB_w bz641764 (by decide) (by decide)) ⟨by omega, by omega⟩ bf641752 (by omega) (by omega) (by omega)) dr_cJ1_indexOf_b82b6_21 ⟨wr_8_203, wr_1_28, wr_8_205, by decide, rfl, (Nat.le_of_ble_eq_true rfl), (Nat.le_of_ble_eq_true rfl)⟩ wr_8_204 (show 0 + 0 ≤ 0 by first | omega | decide) (show 0 + 0 ≤ 0 by first | omega | decide) (Nat.le_of_ble_eq_true rfl) (fun r648767 w648768 dc648764 ds648765 hp648766 => ?_) (fun _ _ _ _ _ z => z.elim)
    obtain ⟨o648769, rfl, rfl, hdc, hds, bo648769, x648770, x648771⟩ := hp648766
    change G _ _ _ _ _ _ _ (.int o648769 :: _) _ _ _
    refine G_widen (cs' := 0) (sl' := 0) (by omega) (by omega) ?_
    exact G_iretA dr_cJ1_indexOf_b82b6_24 rfl (Nat.le_of_ble_eq_true rfl) (Nat.le_of_ble_eq_true rfl) ⟨o648769, rfl, rfl, (Nat.le_of_ble_eq_true rfl), (Nat.le_of_ble_eq_true rfl), bo648769, (by omega), x648771⟩
  · have r648772 : z641761.toInt = 0 := gj_eq hc641762 (show Int32.toInt 0 = 0 by decide)
    have bz641761' : gB z641761 0 0 := ⟨by omega, by omega⟩
    refine G_iconst (-1) dr_cJ1_indexOf_b82b6_12 (by decide +kernel) ?_
    exact G_iretA dr_cJ1_indexOf_b82b6_13 rfl (Nat.le_of_ble_eq_true rfl) (Nat.le_of_ble_eq_true rfl) ⟨(-1), rfl, rfl, (Nat.le_of_ble_eq_true rfl), (Nat.le_of_ble_eq_true rfl), (gB_w (gBl (show Int32.toInt (-1) = (-1) by decide)) (by decide) (by decide)), (by have qa0 : Int32.toInt (-1) = (-1) := (by decide); omega), (ixP_n (by decide))⟩
