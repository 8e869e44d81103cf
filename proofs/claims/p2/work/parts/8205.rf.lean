theorem dr_cJ0_charAt_5068e_0 : decode cJ0_charAt_5068e 0 = .ok (.aload_n 0, 1) := by decide +kernel
theorem dr_cJ0_charAt_5068e_1 : decode cJ0_charAt_5068e 1 = .ok (.invokevirtual 492, 3) := by decide +kernel
theorem wr_3_71 : (Jvm.Cond.methodLink "java/lang/String" (492 : Nat) ({ cls := "java/lang/String", name := "isLatin1", desc := "()Z" } : Jvm.MethodName)) ∈ gw := gw_3 71 rfl rfl
theorem wr_3_74 : (Jvm.Cond.code ({ cls := "java/lang/String", name := "isLatin1", desc := "()Z" } : Jvm.MethodName) prog_34_method_154_code (1 : Nat) (Option.some Jvm.ClassFile.FieldType.boolean)) ∈ gw := gw_3 74 rfl rfl
theorem wr_3_72 : (Jvm.Cond.instanceMethod ({ cls := "java/lang/String", name := "isLatin1", desc := "()Z" } : Jvm.MethodName)) ∈ gw := gw_3 72 rfl rfl
theorem wr_3_73 : (Jvm.Cond.selects "java/lang/String" ({ cls := "java/lang/String", name := "isLatin1", desc := "()Z" } : Jvm.MethodName) ({ cls := "java/lang/String", name := "isLatin1", desc := "()Z" } : Jvm.MethodName)) ∈ gw := gw_3 73 rfl rfl
theorem dr_cJ0_charAt_5068e_4 : decode cJ0_charAt_5068e 4 = .ok (.ifCond .eq 12, 3) := by decide +kernel
theorem dr_cJ0_charAt_5068e_7 : decode cJ0_charAt_5068e 7 = .ok (.aload_n 0, 1) := by decide +kernel
theorem dr_cJ0_charAt_5068e_8 : decode cJ0_charAt_5068e 8 = .ok (.getfield 9, 3) := by decide +kernel
theorem dr_cJ0_charAt_5068e_11 : decode cJ0_charAt_5068e 11 = .ok (.iload_n 1, 1) := by decide +kernel
theorem dr_cJ0_charAt_5068e_12 : decode cJ0_charAt_5068e 12 = .ok (.invokestatic 495, 3) := by decide +kernel
theorem wr_3_75 : (Jvm.Cond.methodLink "java/lang/String" (495 : Nat) ({ cls := "java/lang/StringLatin1", name := "charAt", desc := "([BI)C" } : Jvm.MethodName)) ∈ gw := gw_3 75 rfl rfl
theorem wr_3_77 : (Jvm.Cond.code ({ cls := "java/lang/StringLatin1", name := "charAt", desc := "([BI)C" } : Jvm.MethodName) prog_37_method_2_code (2 : Nat) (Option.some Jvm.ClassFile.FieldType.char)) ∈ gw := gw_3 77 rfl rfl
theorem wr_3_76 : (Jvm.Cond.static ({ cls := "java/lang/StringLatin1", name := "charAt", desc := "([BI)C" } : Jvm.MethodName)) ∈ gw := gw_3 76 rfl rfl
theorem dr_cJ0_charAt_5068e_15 : decode cJ0_charAt_5068e 15 = .ok (.ireturn, 1) := by decide +kernel
theorem dr_cJ1_indexOf_5af95_0 : decode cJ1_indexOf_5af95 0 = .ok (.aload_n 2, 1) := by decide +kernel
theorem dr_cJ1_indexOf_5af95_1 : decode cJ1_indexOf_5af95 1 = .ok (.iconst 0, 1) := by decide +kernel
theorem dr_cJ1_indexOf_5af95_2 : decode cJ1_indexOf_5af95 2 = .ok (.baload, 1) := by decide +kernel
theorem dr_cJ1_indexOf_5af95_3 : decode cJ1_indexOf_5af95 3 = .ok (.istore 5, 2) := by decide +kernel
theorem dr_cJ1_indexOf_5af95_5 : decode cJ1_indexOf_5af95 5 = .ok (.iload_n 1, 1) := by decide +kernel
theorem dr_cJ1_indexOf_5af95_6 : decode cJ1_indexOf_5af95 6 = .ok (.iload_n 3, 1) := by decide +kernel
theorem dr_cJ1_indexOf_5af95_7 : decode cJ1_indexOf_5af95 7 = .ok (.isub, 1) := by decide +kernel
theorem dr_cJ1_indexOf_5af95_8 : decode cJ1_indexOf_5af95 8 = .ok (.istore 6, 2) := by decide +kernel
theorem dr_cJ1_indexOf_5af95_10 : decode cJ1_indexOf_5af95 10 = .ok (.iload 4, 2) := by decide +kernel
theorem dr_cJ1_indexOf_5af95_12 : decode cJ1_indexOf_5af95 12 = .ok (.istore 7, 2) := by decide +kernel
theorem dr_cJ1_indexOf_5af95_14 : decode cJ1_indexOf_5af95 14 = .ok (.iload 7, 2) := by decide +kernel
theorem dr_cJ1_indexOf_5af95_16 : decode cJ1_indexOf_5af95 16 = .ok (.iload 6, 2) := by decide +kernel
theorem dr_cJ1_indexOf_5af95_18 : decode cJ1_indexOf_5af95 18 = .ok (.if_icmp .gt 101, 3) := by decide +kernel
theorem dr_cJ1_indexOf_5af95_119 : decode cJ1_indexOf_5af95 119 = .ok (.iconst (-1), 1) := by decide +kernel
theorem dr_cJ1_indexOf_5af95_120 : decode cJ1_indexOf_5af95 120 = .ok (.ireturn, 1) := by decide +kernel
theorem dr_cJ1_indexOf_5af95_21 : decode cJ1_indexOf_5af95 21 = .ok (.aload_n 0, 1) := by decide +kernel
theorem dr_cJ1_indexOf_5af95_22 : decode cJ1_indexOf_5af95 22 = .ok (.iload 7, 2) := by decide +kernel
theorem dr_cJ1_indexOf_5af95_24 : decode cJ1_indexOf_5af95 24 = .ok (.baload, 1) := by decide +kernel
theorem dr_cJ1_indexOf_5af95_25 : decode cJ1_indexOf_5af95 25 = .ok (.iload 5, 2) := by decide +kernel
theorem dr_cJ1_indexOf_5af95_27 : decode cJ1_indexOf_5af95 27 = .ok (.if_icmp .eq 25, 3) := by decide +kernel
theorem dr_cJ1_indexOf_5af95_52 : decode cJ1_indexOf_5af95 52 = .ok (.iload 7, 2) := by decide +kernel
theorem dr_cJ1_indexOf_5af95_54 : decode cJ1_indexOf_5af95 54 = .ok (.iload 6, 2) := by decide +kernel
theorem dr_cJ1_indexOf_5af95_56 : decode cJ1_indexOf_5af95 56 = .ok (.if_icmp .gt 57, 3) := by decide +kernel
theorem dr_cJ1_indexOf_5af95_113 : decode cJ1_indexOf_5af95 113 = .ok (.iinc 7 1, 3) := by decide +kernel
theorem dr_cJ1_indexOf_5af95_116 : decode cJ1_indexOf_5af95 116 = .ok (.goto (-102), 3) := by decide +kernel
theorem dr_cJ1_indexOf_5af95_59 : decode cJ1_indexOf_5af95 59 = .ok (.iload 7, 2) := by decide +kernel
theorem dr_cJ1_indexOf_5af95_61 : decode cJ1_indexOf_5af95 61 = .ok (.iconst 1, 1) := by decide +kernel
theorem dr_cJ1_indexOf_5af95_62 : decode cJ1_indexOf_5af95 62 = .ok (.iadd, 1) := by decide +kernel
theorem dr_cJ1_indexOf_5af95_63 : decode cJ1_indexOf_5af95 63 = .ok (.istore 8, 2) := by decide +kernel
theorem dr_cJ1_indexOf_5af95_65 : decode cJ1_indexOf_5af95 65 = .ok (.iload 8, 2) := by decide +kernel
theorem dr_cJ1_indexOf_5af95_67 : decode cJ1_indexOf_5af95 67 = .ok (.iload_n 3, 1) := by decide +kernel
theorem dr_cJ1_indexOf_5af95_68 : decode cJ1_indexOf_5af95 68 = .ok (.iadd, 1) := by decide +kernel
theorem dr_cJ1_indexOf_5af95_69 : decode cJ1_indexOf_5af95 69 = .ok (.iconst 1, 1) := by decide +kernel
theorem dr_cJ1_indexOf_5af95_70 : decode cJ1_indexOf_5af95 70 = .ok (.isub, 1) := by decide +kernel
theorem dr_cJ1_indexOf_5af95_71 : decode cJ1_indexOf_5af95 71 = .ok (.istore 9, 2) := by decide +kernel
theorem dr_cJ1_indexOf_5af95_73 : decode cJ1_indexOf_5af95 73 = .ok (.iconst 1, 1) := by decide +kernel
theorem dr_cJ1_indexOf_5af95_74 : decode cJ1_indexOf_5af95 74 = .ok (.istore 10, 2) := by decide +kernel
theorem dr_cJ1_indexOf_5af95_76 : decode cJ1_indexOf_5af95 76 = .ok (.iload 8, 2) := by decide +kernel
theorem dr_cJ1_indexOf_5af95_78 : decode cJ1_indexOf_5af95 78 = .ok (.iload 9, 2) := by decide +kernel
theorem dr_cJ1_indexOf_5af95_80 : decode cJ1_indexOf_5af95 80 = .ok (.if_icmp .ge 23, 3) := by decide +kernel
theorem dr_cJ1_indexOf_5af95_103 : decode cJ1_indexOf_5af95 103 = .ok (.iload 8, 2) := by decide +kernel
theorem dr_cJ1_indexOf_5af95_105 : decode cJ1_indexOf_5af95 105 = .ok (.iload 9, 2) := by decide +kernel
theorem dr_cJ1_indexOf_5af95_107 : decode cJ1_indexOf_5af95 107 = .ok (.if_icmp .ne 6, 3) := by decide +kernel
theorem dr_cJ1_indexOf_5af95_110 : decode cJ1_indexOf_5af95 110 = .ok (.iload 7, 2) := by decide +kernel
theorem dr_cJ1_indexOf_5af95_112 : decode cJ1_indexOf_5af95 112 = .ok (.ireturn, 1) := by decide +kernel
theorem dr_cJ1_indexOf_5af95_83 : decode cJ1_indexOf_5af95 83 = .ok (.aload_n 0, 1) := by decide +kernel
theorem dr_cJ1_indexOf_5af95_84 : decode cJ1_indexOf_5af95 84 = .ok (.iload 8, 2) := by decide +kernel
theorem dr_cJ1_indexOf_5af95_86 : decode cJ1_indexOf_5af95 86 = .ok (.baload, 1) := by decide +kernel
theorem dr_cJ1_indexOf_5af95_87 : decode cJ1_indexOf_5af95 87 = .ok (.aload_n 2, 1) := by decide +kernel
theorem dr_cJ1_indexOf_5af95_88 : decode cJ1_indexOf_5af95 88 = .ok (.iload 10, 2) := by decide +kernel
theorem dr_cJ1_indexOf_5af95_90 : decode cJ1_indexOf_5af95 90 = .ok (.baload, 1) := by decide +kernel
theorem dr_cJ1_indexOf_5af95_91 : decode cJ1_indexOf_5af95 91 = .ok (.if_icmp .ne 12, 3) := by decide +kernel
theorem dr_cJ1_indexOf_5af95_94 : decode cJ1_indexOf_5af95 94 = .ok (.iinc 8 1, 3) := by decide +kernel
theorem dr_cJ1_indexOf_5af95_97 : decode cJ1_indexOf_5af95 97 = .ok (.iinc 10 1, 3) := by decide +kernel
theorem dr_cJ1_indexOf_5af95_100 : decode cJ1_indexOf_5af95 100 = .ok (.goto (-24), 3) := by decide +kernel
theorem dr_cJ1_indexOf_5af95_30 : decode cJ1_indexOf_5af95 30 = .ok (.iinc 7 1, 3) := by decide +kernel
theorem dr_cJ1_indexOf_5af95_33 : decode cJ1_indexOf_5af95 33 = .ok (.iload 7, 2) := by decide +kernel
theorem dr_cJ1_indexOf_5af95_35 : decode cJ1_indexOf_5af95 35 = .ok (.iload 6, 2) := by decide +kernel
theorem dr_cJ1_indexOf_5af95_37 : decode cJ1_indexOf_5af95 37 = .ok (.if_icmp .gt 15, 3) := by decide +kernel
theorem dr_cJ1_indexOf_5af95_40 : decode cJ1_indexOf_5af95 40 = .ok (.aload_n 0, 1) := by decide +kernel
theorem dr_cJ1_indexOf_5af95_41 : decode cJ1_indexOf_5af95 41 = .ok (.iload 7, 2) := by decide +kernel
theorem dr_cJ1_indexOf_5af95_43 : decode cJ1_indexOf_5af95 43 = .ok (.baload, 1) := by decide +kernel
theorem dr_cJ1_indexOf_5af95_44 : decode cJ1_indexOf_5af95 44 = .ok (.iload 5, 2) := by decide +kernel
theorem dr_cJ1_indexOf_5af95_46 : decode cJ1_indexOf_5af95 46 = .ok (.if_icmp .eq 6, 3) := by decide +kernel
theorem dr_cJ1_indexOf_5af95_49 : decode cJ1_indexOf_5af95 49 = .ok (.goto (-19), 3) := by decide +kernel
theorem dr_cJ1_indexOf_b82b6_0 : decode cJ1_indexOf_b82b6 0 = .ok (.aload_n 1, 1) := by decide +kernel
theorem dr_cJ1_indexOf_b82b6_1 : decode cJ1_indexOf_b82b6 1 = .ok (.arraylength, 1) := by decide +kernel
theorem dr_cJ1_indexOf_b82b6_2 : decode cJ1_indexOf_b82b6 2 = .ok (.ifCond .ne 5, 3) := by decide +kernel
theorem dr_cJ1_indexOf_b82b6_7 : decode cJ1_indexOf_b82b6 7 = .ok (.aload_n 0, 1) := by decide +kernel
theorem dr_cJ1_indexOf_b82b6_8 : decode cJ1_indexOf_b82b6 8 = .ok (.arraylength, 1) := by decide +kernel
theorem dr_cJ1_indexOf_b82b6_9 : decode cJ1_indexOf_b82b6 9 = .ok (.ifCond .ne 5, 3) := by decide +kernel
theorem dr_cJ1_indexOf_b82b6_14 : decode cJ1_indexOf_b82b6 14 = .ok (.aload_n 0, 1) := by decide +kernel
theorem dr_cJ1_indexOf_b82b6_15 : decode cJ1_indexOf_b82b6 15 = .ok (.aload_n 0, 1) := by decide +kernel
theorem dr_cJ1_indexOf_b82b6_16 : decode cJ1_indexOf_b82b6 16 = .ok (.arraylength, 1) := by decide +kernel
theorem dr_cJ1_indexOf_b82b6_17 : decode cJ1_indexOf_b82b6 17 = .ok (.aload_n 1, 1) := by decide +kernel
theorem dr_cJ1_indexOf_b82b6_18 : decode cJ1_indexOf_b82b6 18 = .ok (.aload_n 1, 1) := by decide +kernel
theorem dr_cJ1_indexOf_b82b6_19 : decode cJ1_indexOf_b82b6 19 = .ok (.arraylength, 1) := by decide +kernel
theorem dr_cJ1_indexOf_b82b6_20 : decode cJ1_indexOf_b82b6 20 = .ok (.iconst 0, 1) := by decide +kernel
theorem dr_cJ1_indexOf_b82b6_21 : decode cJ1_indexOf_b82b6 21 = .ok (.invokestatic 99, 3) := by decide +kernel
theorem wr_8_203 : (Jvm.Cond.methodLink "java/lang/StringLatin1" (99 : Nat) ({ cls := "java/lang/StringLatin1", name := "indexOf", desc := "([BI[BII)I" } : Jvm.MethodName)) ∈ gw := gw_8 203 rfl rfl
theorem wr_8_205 : (Jvm.Cond.code ({ cls := "java/lang/StringLatin1", name := "indexOf", desc := "([BI[BII)I" } : Jvm.MethodName) prog_37_method_25_code (11 : Nat) (Option.some Jvm.ClassFile.FieldType.int)) ∈ gw := gw_8 205 rfl rfl
theorem wr_8_204 : (Jvm.Cond.static ({ cls := "java/lang/StringLatin1", name := "indexOf", desc := "([BI[BII)I" } : Jvm.MethodName)) ∈ gw := gw_8 204 rfl rfl
theorem dr_cJ1_indexOf_b82b6_24 : decode cJ1_indexOf_b82b6 24 = .ok (.ireturn, 1) := by decide +kernel
theorem dr_cJ1_indexOf_b82b6_12 : decode cJ1_indexOf_b82b6 12 = .ok (.iconst (-1), 1) := by decide +kernel
theorem dr_cJ1_indexOf_b82b6_13 : decode cJ1_indexOf_b82b6 13 = .ok (.ireturn, 1) := by decide +kernel
abbrev ky_641680_String_charAt : gKey := (cJ0_charAt_5068e, 2, "java/lang/String", (some FieldType.char), [], "charAt", fun _ _ => True)
def pp_641680_String_charAt (D : va_G) (I : FieldType → ClassId) (P641673 : List Nat) (F641674 : Nat → va_E) (qs641675 : Nat) (qb641676 : Nat) (bs641677 : List Int32) (p641678 : Int32) : Option Value → va_W → Nat → Nat → Prop := fun r w dc ds => ∃ (o641715 : Int32), r = some (.int o641715) ∧ w = va_pl P641673 F641674 ∧ dc ≤ 0 ∧ ds ≤ 0 ∧ gB o641715 0 65535
set_option maxRecDepth 100000 in
set_option maxHeartbeats 4000000 in
theorem cp_641680_String_charAt (l : Launch) (hl0 : l.stackTraces = false) (D : va_G) (I : FieldType → ClassId) (P641673 : List Nat) (F641674 : Nat → va_E) (qs641675 : Nat) (qb641676 : Nat) (bs641677 : List Int32) (p641678 : Int32) (hbs641677 : ∀ A s H, (gV D I).2.2.2.1 A s H → gSC qs641675 qb641676 bs641677 A s H) (nbs641677 : (bs641677.length : Int) ≤ 65535) (lbs641677 : gLB bs641677) (bp641678 : gB p641678 0 65535) (x641679 : p641678.toInt < (bs641677.length : Int)) : CtA (gV D I) l yJ0_charAt_5068e cJ0_charAt_5068e 2 (some FieldType.char) 3 64 0 0 [.ref qs641675, .int p641678] (va_pl P641673 F641674) (pp_641680_String_charAt D I P641673 F641674 qs641675 qb641676 bs641677 p641678) gNA := by
  refine CtA_ofF hl0 (by decide +kernel) (Nat.le_of_ble_eq_true rfl) ?_
  refine G_aload_n 0 dr_cJ0_charAt_5068e_0 rfl ?_
  refine Gw_callVk (As := []) (gV_ok D I) (cp_641686_String_isLatin1 l hl0 D I P641673 F641674 qs641675 qb641676 bs641677 hbs641677 nbs641677 lbs641677) dr_cJ0_charAt_5068e_1 ⟨wr_3_71, wr_1_21, wr_3_74, by decide, rfl, (Nat.le_of_ble_eq_true rfl), (Nat.le_of_ble_eq_true rfl)⟩ wr_3_72 wr_3_73 (fun _ _ _ h => (hbs641677 _ _ _ h).1) (show 0 + 0 ≤ 0 by first | omega | decide) (show 0 + 0 ≤ 0 by first | omega | decide) (Nat.le_of_ble_eq_true rfl) (fun r641690 w641691 dc641687 ds641688 hp641689 => ?_) (fun _ _ _ _ _ z => z.elim)
  obtain ⟨rfl, rfl, hdc, hds⟩ := hp641689
  change G _ _ _ _ _ _ _ (.int 1 :: _) _ _ _
  refine G_widen (cs' := 0) (sl' := 0) (by omega) (by omega) ?_
  refine G_if_eq 16 dr_cJ0_charAt_5068e_4 (by decide +kernel) (fun hc => absurd hc (by decide)) (fun _ => ?_)
  refine G_aload_n 0 dr_cJ0_charAt_5068e_7 rfl ?_
  refine G_kget dr_cJ0_charAt_5068e_8 wr_8_182 (fun _ _ _ h => (hbs641677 _ _ _ h).2.2.1) ?_
  refine G_iload_n 1 dr_cJ0_charAt_5068e_11 rfl ?_
  refine Gw_callS (As := [.ref qb641676, .int p641678]) (gV_ok D I) (cp_641698_StringLatin1_charAt l hl0 D I P641673 F641674 qb641676 bs641677 p641678 (fun _ _ _ h => (hbs641677 _ _ _ h).2.2.2) (by omega) lbs641677 (gB_w bp641678 (by decide) (by decide)) (by omega)) dr_cJ0_charAt_5068e_12 ⟨wr_3_75, wr_1_28, wr_3_77, by decide, rfl, (Nat.le_of_ble_eq_true rfl), (Nat.le_of_ble_eq_true rfl)⟩ wr_3_76 (show 0 + 0 ≤ 0 by first | omega | decide) (show 0 + 0 ≤ 0 by first | omega | decide) (Nat.le_of_ble_eq_true rfl) (fun r641712 w641713 dc641709 ds641710 hp641711 => ?_) (fun _ _ _ _ _ z => z.elim)
  obtain ⟨o641714, rfl, rfl, hdc, hds, bo641714⟩ := hp641711
  change G _ _ _ _ _ _ _ (.int o641714 :: _) _ _ _
  refine G_widen (cs' := 0) (sl' := 0) (by omega) (by omega) ?_
  exact G_zretA FieldType.char dr_cJ0_charAt_5068e_15 rfl (gN_char bo641714) (Nat.le_of_ble_eq_true rfl) (Nat.le_of_ble_eq_true rfl) ⟨o641714, rfl, rfl, (Nat.le_of_ble_eq_true rfl), (Nat.le_of_ble_eq_true rfl), bo641714⟩
abbrev ky_641776_StringLatin1_indexOf : gKey := (cJ1_indexOf_5af95, 11, "java/lang/StringLatin1", (some FieldType.int), [], "indexOf", fun _ _ => True)
def pp_641776_StringLatin1_indexOf (D : va_G) (I : FieldType → ClassId) (P641764 : List Nat) (F641765 : Nat → va_E) (q641766 : Nat) (qs641767 : Nat) (bs641768 : List Int32) (p641769 : Int32) (p641770 : Int32) (f641771 : Nat → Int32) (n641772 : Nat) : Option Value → va_W → Nat → Nat → Prop := fun r w dc ds => ∃ (o648761 : Int32), r = some (.int o648761) ∧ w = va_pl P641764 F641765 ∧ dc ≤ 0 ∧ ds ≤ 0 ∧ gB o648761 (-2147483646) 16777215 ∧ (o648761.toInt < 0 ∨ o648761.toInt + p641770.toInt ≤ p641769.toInt) ∧ ixP (fun j => bs641768.getD j 0) f641771 o648761
set_option maxRecDepth 100000 in
set_option maxHeartbeats 4000000 in
theorem cp_641776_StringLatin1_indexOf (l : Launch) (hl0 : l.stackTraces = false) (D : va_G) (I : FieldType → ClassId) (P641764 : List Nat) (F641765 : Nat → va_E) (q641766 : Nat) (qs641767 : Nat) (bs641768 : List Int32) (p641769 : Int32) (p641770 : Int32) (f641771 : Nat → Int32) (n641772 : Nat) (hmq641766 : q641766 ∈ P641764) (heq641766 : F641765 q641766 = .inl (I .byte, n641772, .inl f641771)) (hbs641768 : ∀ A s H, (gV D I).2.2.2.1 A s H → va_T .byte qs641767 bs641768.length (fun j => .int (bs641768.getD j 0)) A s H) (nbs641768 : (bs641768.length : Int) ≤ 65535) (lbs641768 : gLB bs641768) (bp641769 : gB p641769 0 16777216) (bp641770 : gB p641770 1 16777216) (bf641771 : gF f641771 (-128) 127) (x641773 : p641769.toInt = (bs641768.length : Int)) (x641774 : p641770.toInt = (n641772 : Int)) (x641775 : ((n641772 : Int) ≤ 16777216)) : CtA (gV D I) l yJ1_indexOf_5af95 cJ1_indexOf_5af95 11 (some FieldType.int) 0 0 0 0 [.ref qs641767, .int p641769, .ref q641766, .int p641770, .int 0] (va_pl P641764 F641765) (pp_641776_StringLatin1_indexOf D I P641764 F641765 q641766 qs641767 bs641768 p641769 p641770 f641771 n641772) gNA := by
  refine CtA_ofF hl0 (by decide +kernel) (Nat.le_of_ble_eq_true rfl) ?_
  refine G_aload_n 2 dr_cJ1_indexOf_5af95_0 rfl ?_
  refine G_iconst 0 dr_cJ1_indexOf_5af95_1 (by decide +kernel) ?_
  refine Gp_bald 1 hmq641766 heq641766 dr_cJ1_indexOf_5af95_2 rfl (gB_inr (x := 0) (show (0 : Int) ≤ Int32.toInt 0 by decide) (show Int32.toInt 0 < _ by rw [show Int32.toInt 0 = 0 by decide]; omega)) (G_nam fun z641777 hz641777 => ?_)
  have bz641777 : gB z641777 (-128) 127 := by rw [hz641777]; exact bf641771 _
  refine G_istore (L' := [(5, .int z641777), (0, .ref qs641767), (1, .int p641769), (2, .ref q641766), (3, .int p641770), (4, .int 0)]) dr_cJ1_indexOf_5af95_3 (Nat.le_of_ble_eq_true rfl) rfl ?_
  refine G_iload_n 2 dr_cJ1_indexOf_5af95_5 rfl ?_
  refine G_iload_n 4 dr_cJ1_indexOf_5af95_6 rfl ?_
  refine G_isub dr_cJ1_indexOf_5af95_7 (G_nam fun z641778 hz641778 => ?_)
  have ez641778 : z641778.toInt = p641769.toInt - p641770.toInt := by rw [gI_sub hz641778 bp641769 bp641770 (by decide) (by decide)]
  have bz641778 : gB z641778 (-16777216) 16777215 := gB_sub (gI_sub hz641778 bp641769 bp641770 (by decide) (by decide)) bp641769 bp641770 (by decide) (by decide)
  refine G_istore (L' := [(6, .int z641778), (5, .int z641777), (0, .ref qs641767), (1, .int p641769), (2, .ref q641766), (3, .int p641770), (4, .int 0)]) dr_cJ1_indexOf_5af95_8 (Nat.le_of_ble_eq_true rfl) rfl ?_
  refine G_iload 6 dr_cJ1_indexOf_5af95_10 rfl ?_
  refine G_istore (L' := [(7, .int 0), (6, .int z641778), (5, .int z641777), (0, .ref qs641767), (1, .int p641769), (2, .ref q641766), (3, .int p641770), (4, .int 0)]) dr_cJ1_indexOf_5af95_12 (Nat.le_of_ble_eq_true rfl) rfl ?_
  have hlp14_647689 : ∀ (n14_647689 : Nat) (g647688 : Int32), gB g647688 (-2147483646) 16777217 → 0 ≤ g647688.toInt → ((z641778.toInt : Int) + 2 - g647688.toInt).toNat < n14_647689 → G (gV D I) l (gRm 0 0 0 0) (gMA (gV D I) (pp_641776_StringLatin1_indexOf D I P641764 F641765 q641766 qs641767 bs641768 p641769 p641770 f641771 n641772) gNA 0 0) ky_641776_StringLatin1_indexOf 14 [(7, .int g647688), (6, .int z641778), (5, .int z641777), (0, .ref qs641767), (1, .int p641769), (2, .ref q641766), (3, .int p641770), (4, .int 0)] [] (va_pl P641764 F641765) 0 0 := by
    intro n14_647689
    induction n14_647689 with
    | zero => intro g647688 bg647688 x647689 hm14_647689; exact absurd hm14_647689 (Nat.not_lt_zero _)
    | succ n14_647689 ih14_647689 =>
      intro g647688 bg647688 x647689 hm14_647689
      refine G_iload 0 dr_cJ1_indexOf_5af95_14 rfl ?_
      refine G_iload 1 dr_cJ1_indexOf_5af95_16 rfl ?_
      refine G_icmp_gt 119 dr_cJ1_indexOf_5af95_18 (by decide +kernel) (fun hc647690 => ?_) (fun hc647690 => ?_)
      · have r647691 : z641778.toInt < g647688.toInt := gC_lt hc647690
        have bg647688' : gB g647688 (-16777215) 16777217 := ⟨by omega, by omega⟩
        refine G_iconst (-1) dr_cJ1_indexOf_5af95_119 (by decide +kernel) ?_
        exact G_iretA dr_cJ1_indexOf_5af95_120 rfl (Nat.le_of_ble_eq_true rfl) (Nat.le_of_ble_eq_true rfl) ⟨(-1), rfl, rfl, (Nat.le_of_ble_eq_true rfl), (Nat.le_of_ble_eq_true rfl), (gB_w (gBl (show Int32.toInt (-1) = (-1) by decide)) (by decide) (by decide)), (by have qa0 : Int32.toInt (-1) = (-1) := (by decide); have qa1 : Int32.toInt 0 = 0 := (by decide); omega), (ixP_n (by decide))⟩
      · have r647692 : g647688.toInt ≤ z641778.toInt := gC_nlt hc647690
        have bg647688' : gB g647688 (-2147483646) 16777215 := ⟨by omega, by omega⟩
        refine G_aload_n 3 dr_cJ1_indexOf_5af95_21 rfl ?_
        refine G_iload 0 dr_cJ1_indexOf_5af95_22 rfl ?_
        refine G_kbald (f := fun j => bs641768.getD j 0) dr_cJ1_indexOf_5af95_24 hbs641768 (gB_inr (by omega) (by omega)) (G_nam fun z647693 hz647693 => ?_)
        have bz647693 : gB z647693 (-2147483648) 2147483647 := gB_any z647693
        refine G_iload 2 dr_cJ1_indexOf_5af95_25 rfl ?_
        refine G_icmp_eq 52 dr_cJ1_indexOf_5af95_27 (by decide +kernel) (fun hc647694 => ?_) (fun hc647694 => ?_)
        · have r647695 : z647693.toInt = z641777.toInt := gC_eq hc647694
          have bz647693' : gB z647693 (-128) 127 := ⟨by omega, by omega⟩
          refine G_iload 0 dr_cJ1_indexOf_5af95_52 rfl ?_
          refine G_iload 1 dr_cJ1_indexOf_5af95_54 rfl ?_
          refine G_icmp_gt 113 dr_cJ1_indexOf_5af95_56 (by decide +kernel) (fun hc647696 => ?_) (fun hc647696 => ?_)
          · have r647697 : z641778.toInt < g647688.toInt := gC_lt hc647696
            have bz641778' : gB z641778 (-16777216) 16777214 := ⟨by omega, by omega⟩
            have bg647688'' : gB g647688 (-16777215) 16777215 := ⟨by omega, by omega⟩
            obtain ⟨z647698, hz647698⟩ : ∃ z : Int32, z = g647688 + Int32.ofInt 1 := ⟨_, rfl⟩
            have ez647698 : z647698.toInt = g647688.toInt + 1 := gI_inc hz647698 (by decide) bg647688'' (by decide) (by decide)
            have bz647698 : gB z647698 (-16777214) 16777216 := ⟨by omega, by omega⟩
            refine G_iinc (L' := [(7, .int z647698), (6, .int z641778), (5, .int z641777), (0, .ref qs641767), (1, .int p641769), (2, .ref q641766), (3, .int p641770), (4, .int 0)]) z647698 0 dr_cJ1_indexOf_5af95_113 rfl hz647698.symm (Nat.le_of_ble_eq_true rfl) rfl ?_
            refine G_goto 14 dr_cJ1_indexOf_5af95_116 (by decide +kernel) ?_
            exact ih14_647689 z647698 (gB_w bz647698 (by decide) (by decide)) (by have qa0 : Int32.toInt 0 = 0 := (by decide); omega) (by have qa0 : Int32.toInt 0 = 0 := (by decide); omega)
          · have r647699 : g647688.toInt ≤ z641778.toInt := gC_nlt hc647696
            refine G_iload 0 dr_cJ1_indexOf_5af95_59 rfl ?_
            refine G_iconst 1 dr_cJ1_indexOf_5af95_61 (by decide +kernel) ?_
            refine G_iadd dr_cJ1_indexOf_5af95_62 (G_nam fun z647700 hz647700 => ?_)
            have ez647700 : z647700.toInt = g647688.toInt + 1 := by rw [gI_add hz647700 bg647688' (gBl (show Int32.toInt 1 = 1 by decide)) (by decide) (by decide), show Int32.toInt 1 = 1 from by decide]
            have bz647700 : gB z647700 (-2147483645) 16777216 := gB_add (gI_add hz647700 bg647688' (gBl (show Int32.toInt 1 = 1 by decide)) (by decide) (by decide)) bg647688' (gBl (show Int32.toInt 1 = 1 by decide)) (by decide) (by decide)
            refine G_istore (L' := [(8, .int z647700), (7, .int g647688), (6, .int z641778), (5, .int z641777), (0, .ref qs641767), (1, .int p641769), (2, .ref q641766), (3, .int p641770), (4, .int 0)]) dr_cJ1_indexOf_5af95_63 (Nat.le_of_ble_eq_true rfl) rfl ?_
            refine G_iload 0 dr_cJ1_indexOf_5af95_65 rfl ?_
            refine G_iload_n 7 dr_cJ1_indexOf_5af95_67 rfl ?_
            refine G_iadd dr_cJ1_indexOf_5af95_68 (G_nam fun z647701 hz647701 => ?_)
            have ez647701 : z647701.toInt = z647700.toInt + p641770.toInt := by rw [gI_add hz647701 bz647700 bp641770 (by decide) (by decide)]
            have bz647701 : gB z647701 (-2147483644) 33554432 := gB_add (gI_add hz647701 bz647700 bp641770 (by decide) (by decide)) bz647700 bp641770 (by decide) (by decide)
            refine G_iconst 1 dr_cJ1_indexOf_5af95_69 (by decide +kernel) ?_
            refine G_isub dr_cJ1_indexOf_5af95_70 (G_nam fun z647702 hz647702 => ?_)
            have ez647702 : z647702.toInt = z647701.toInt - 1 := by rw [gI_sub hz647702 bz647701 (gBl (show Int32.toInt 1 = 1 by decide)) (by decide) (by decide), show Int32.toInt 1 = 1 from by decide]
            have bz647702 : gB z647702 (-2147483645) 33554431 := gB_sub (gI_sub hz647702 bz647701 (gBl (show Int32.toInt 1 = 1 by decide)) (by decide) (by decide)) bz647701 (gBl (show Int32.toInt 1 = 1 by decide)) (by decide) (by decide)
            refine G_istore (L' := [(9, .int z647702), (8, .int z647700), (7, .int g647688), (6, .int z641778), (5, .int z641777), (0, .ref qs641767), (1, .int p641769), (2, .ref q641766), (3, .int p641770), (4, .int 0)]) dr_cJ1_indexOf_5af95_71 (Nat.le_of_ble_eq_true rfl) rfl ?_
            refine G_iconst 1 dr_cJ1_indexOf_5af95_73 (by decide +kernel) ?_
            refine G_istore (L' := [(10, .int 1), (9, .int z647702), (8, .int z647700), (7, .int g647688), (6, .int z641778), (5, .int z641777), (0, .ref qs641767), (1, .int p641769), (2, .ref q641766), (3, .int p641770), (4, .int 0)]) dr_cJ1_indexOf_5af95_74 (Nat.le_of_ble_eq_true rfl) rfl ?_
            have hlp76_647825 : ∀ (n76_647825 : Nat) (g647820 : Int32) (g647821 : Int32), gB g647820 1 16777217 → gB g647821 (-2147483645) 33554431 → 0 ≤ g647821.toInt → g647820.toInt = g647821.toInt - g647688.toInt → 1 ≤ g647820.toInt → g647821.toInt ≤ z647702.toInt → ((z647702.toInt : Int) + 2 - g647821.toInt).toNat < n76_647825 → G (gV D I) l (gRm 0 0 0 0) (gMA (gV D I) (pp_641776_StringLatin1_indexOf D I P641764 F641765 q641766 qs641767 bs641768 p641769 p641770 f641771 n641772) gNA 0 0) ky_641776_StringLatin1_indexOf 76 [(10, .int g647820), (9, .int z647702), (8, .int g647821), (7, .int g647688), (6, .int z641778), (5, .int z641777), (0, .ref qs641767), (1, .int p641769), (2, .ref q641766), (3, .int p641770), (4, .int 0)] [] (va_pl P641764 F641765) 0 0 := by
              intro n76_647825
              induction n76_647825 with
              | zero => intro g647820 g647821 bg647820 bg647821 x647822 x647823 x647824 x647825 hm76_647825; exact absurd hm76_647825 (Nat.not_lt_zero _)
              | succ n76_647825 ih76_647825 =>
                intro g647820 g647821 bg647820 bg647821 x647822 x647823 x647824 x647825 hm76_647825
                refine G_iload 2 dr_cJ1_indexOf_5af95_76 rfl ?_
                refine G_iload 1 dr_cJ1_indexOf_5af95_78 rfl ?_
                refine G_icmp_ge 103 dr_cJ1_indexOf_5af95_80 (by decide +kernel) (fun hc647826 => ?_) (fun hc647826 => ?_)
                · have r647827 : z647702.toInt ≤ g647821.toInt := gC_le hc647826
                  refine G_iload 2 dr_cJ1_indexOf_5af95_103 rfl ?_
                  refine G_iload 1 dr_cJ1_indexOf_5af95_105 rfl ?_
                  refine G_icmp_ne 113 dr_cJ1_indexOf_5af95_107 (by decide +kernel) (fun hc647828 => ?_) (fun hc647828 => ?_)
                  · have r647829 : g647821.toInt ≠ z647702.toInt := gC_ne hc647828
                    obtain ⟨z647830, hz647830⟩ : ∃ z : Int32, z = g647688 + Int32.ofInt 1 := ⟨_, rfl⟩
                    have ez647830 : z647830.toInt = g647688.toInt + 1 := gI_inc hz647830 (by decide) bg647688' (by decide) (by decide)
                    have bz647830 : gB z647830 (-2147483645) 16777216 := ⟨by omega, by omega⟩
                    refine G_iinc (L' := [(7, .int z647830), (10, .int g647820), (9, .int z647702), (8, .int g647821), (6, .int z641778), (5, .int z641777), (0, .ref qs641767), (1, .int p641769), (2, .ref q641766), (3, .int p641770), (4, .int 0)]) z647830 3 dr_cJ1_indexOf_5af95_113 rfl hz647830.symm (Nat.le_of_ble_eq_true rfl) rfl ?_
                    refine G_goto 14 dr_cJ1_indexOf_5af95_116 (by decide +kernel) ?_
                    refine G_lv (L' := [(7, .int z647830), (6, .int z641778), (5, .int z641777), (0, .ref qs641767), (1, .int p641769), (2, .ref q641766), (3, .int p641770), (4, .int 0)]) [0, 4, 5, 6, 7, 8, 9, 10] rfl ?_
                    exact ih14_647689 z647830 (gB_w bz647830 (by decide) (by decide)) (by have qa0 : Int32.toInt 0 = 0 := (by decide); omega) (by have qa0 : Int32.toInt 0 = 0 := (by decide); omega)
                  · have r647831 : g647821.toInt = z647702.toInt := gC_eq hc647828
                    refine G_iload 3 dr_cJ1_indexOf_5af95_110 rfl ?_
                    exact G_iretA dr_cJ1_indexOf_5af95_112 rfl (Nat.le_of_ble_eq_true rfl) (Nat.le_of_ble_eq_true rfl) ⟨g647688, rfl, rfl, (Nat.le_of_ble_eq_true rfl), (Nat.le_of_ble_eq_true rfl), bg647688', (by have qa0 : Int32.toInt 0 = 0 := (by decide); omega), (by first | exact ixP_of (by assumption) (by assumption) (by omega) | exact absurd (show False by omega) not_false)⟩
                · have r647832 : g647821.toInt < z647702.toInt := gC_nle hc647826
                  have bg647821' : gB g647821 (-2147483645) 33554430 := ⟨by omega, by omega⟩
                  have bz647702' : gB z647702 (-2147483644) 33554431 := ⟨by omega, by omega⟩
                  refine G_aload_n 6 dr_cJ1_indexOf_5af95_83 rfl ?_
                  refine G_iload 2 dr_cJ1_indexOf_5af95_84 rfl ?_
                  refine G_kbald (f := fun j => bs641768.getD j 0) dr_cJ1_indexOf_5af95_86 hbs641768 (gB_inr (by omega) (by omega)) (G_nam fun z647833 hz647833 => ?_)
                  have bz647833 : gB z647833 (-2147483648) 2147483647 := gB_any z647833
                  refine G_aload_n 8 dr_cJ1_indexOf_5af95_87 rfl ?_
                  refine G_iload 0 dr_cJ1_indexOf_5af95_88 rfl ?_
                  refine Gp_bald 1 hmq641766 heq641766 dr_cJ1_indexOf_5af95_90 rfl (gB_inr (by omega) (by omega)) (G_nam fun z647834 hz647834 => ?_)
                  have bz647834 : gB z647834 (-128) 127 := by rw [hz647834]; exact bf641771 _
                  refine G_icmp_ne 103 dr_cJ1_indexOf_5af95_91 (by decide +kernel) (fun hc647835 => ?_) (fun hc647835 => ?_)
                  · have r647836 : z647833.toInt ≠ z647834.toInt := gC_ne hc647835
                    refine G_iload 2 dr_cJ1_indexOf_5af95_103 rfl ?_
                    refine G_iload 1 dr_cJ1_indexOf_5af95_105 rfl ?_
                    refine G_icmp_ne 113 dr_cJ1_indexOf_5af95_107 (by decide +kernel) (fun hc647837 => ?_) (fun hc647837 => ?_)
                    · have r647838 : g647821.toInt ≠ z647702.toInt := gC_ne hc647837
                      obtain ⟨z647839, hz647839⟩ : ∃ z : Int32, z = g647688 + Int32.ofInt 1 := ⟨_, rfl⟩
                      have ez647839 : z647839.toInt = g647688.toInt + 1 := gI_inc hz647839 (by decide) bg647688' (by decide) (by decide)
                      have bz647839 : gB z647839 (-2147483645) 16777216 := ⟨by omega, by omega⟩
                      refine G_iinc (L' := [(7, .int z647839), (10, .int g647820), (9, .int z647702), (8, .int g647821), (6, .int z641778), (5, .int z641777), (0, .ref qs641767), (1, .int p641769), (2, .ref q641766), (3, .int p641770), (4, .int 0)]) z647839 3 dr_cJ1_indexOf_5af95_113 rfl hz647839.symm (Nat.le_of_ble_eq_true rfl) rfl ?_
                      refine G_goto 14 dr_cJ1_indexOf_5af95_116 (by decide +kernel) ?_
                      refine G_lv (L' := [(7, .int z647839), (6, .int z641778), (5, .int z641777), (0, .ref qs641767), (1, .int p641769), (2, .ref q641766), (3, .int p641770), (4, .int 0)]) [0, 4, 5, 6, 7, 8, 9, 10] rfl ?_
                      exact ih14_647689 z647839 (gB_w bz647839 (by decide) (by decide)) (by have qa0 : Int32.toInt 0 = 0 := (by decide); omega) (by have qa0 : Int32.toInt 0 = 0 := (by decide); omega)
                    · have r647840 : g647821.toInt = z647702.toInt := gC_eq hc647837
                      have bg647821'' : gB g647821 (-2147483644) 33554430 := ⟨by omega, by omega⟩
                      have bz647702'' : gB z647702 (-2147483644) 33554430 := ⟨by omega, by omega⟩
                      refine G_iload 3 dr_cJ1_indexOf_5af95_110 rfl ?_
                      exact G_iretA dr_cJ1_indexOf_5af95_112 rfl (Nat.le_of_ble_eq_true rfl) (Nat.le_of_ble_eq_true rfl) ⟨g647688, rfl, rfl, (Nat.le_of_ble_eq_true rfl), (Nat.le_of_ble_eq_true rfl), bg647688', (by have qa0 : Int32.toInt 0 = 0 := (by decide); omega), (by first | exact ixP_of (by assumption) (by assumption) (by omega) | exact absurd (show False by omega) not_false)⟩
                  · have r647841 : z647833.toInt = z647834.toInt := gC_eq hc647835
                    have bz647833' : gB z647833 (-128) 127 := ⟨by omega, by omega⟩
                    obtain ⟨z647842, hz647842⟩ : ∃ z : Int32, z = g647821 + Int32.ofInt 1 := ⟨_, rfl⟩
                    have ez647842 : z647842.toInt = g647821.toInt + 1 := gI_inc hz647842 (by decide) bg647821' (by decide) (by decide)
                    have bz647842 : gB z647842 (-2147483644) 33554431 := ⟨by omega, by omega⟩
                    refine G_iinc (L' := [(8, .int z647842), (10, .int g647820), (9, .int z647702), (7, .int g647688), (6, .int z641778), (5, .int z641777), (0, .ref qs641767), (1, .int p641769), (2, .ref q641766), (3, .int p641770), (4, .int 0)]) z647842 2 dr_cJ1_indexOf_5af95_94 rfl hz647842.symm (Nat.le_of_ble_eq_true rfl) rfl ?_
                    have bg647820' : gB g647820 1 16777216 := ⟨by omega, by omega⟩
                    obtain ⟨z647843, hz647843⟩ : ∃ z : Int32, z = g647820 + Int32.ofInt 1 := ⟨_, rfl⟩
                    have ez647843 : z647843.toInt = g647820.toInt + 1 := gI_inc hz647843 (by decide) bg647820' (by decide) (by decide)
                    have bz647843 : gB z647843 2 16777217 := ⟨by omega, by omega⟩
                    refine G_iinc (L' := [(10, .int z647843), (8, .int z647842), (9, .int z647702), (7, .int g647688), (6, .int z641778), (5, .int z641777), (0, .ref qs641767), (1, .int p641769), (2, .ref q641766), (3, .int p641770), (4, .int 0)]) z647843 1 dr_cJ1_indexOf_5af95_97 rfl hz647843.symm (Nat.le_of_ble_eq_true rfl) rfl ?_
                    refine G_goto 76 dr_cJ1_indexOf_5af95_100 (by decide +kernel) ?_
                    refine G_lv (L' := [(10, .int z647843), (9, .int z647702), (8, .int z647842), (7, .int g647688), (6, .int z641778), (5, .int z641777), (0, .ref qs641767), (1, .int p641769), (2, .ref q641766), (3, .int p641770), (4, .int 0)]) [0, 2, 1, 3, 4, 5, 6, 7, 8, 9, 10] rfl ?_
                    exact ih76_647825 z647843 z647842 (gB_w bz647843 (by decide) (by decide)) (gB_w bz647842 (by decide) (by decide)) (by have qa0 : Int32.toInt 0 = 0 := (by decide); omega) (by have qa0 : Int32.toInt 0 = 0 := (by decide); omega) (by have qa0 : Int32.toInt 0 = 0 := (by decide); omega) (by have qa0 : Int32.toInt 0 = 0 := (by decide); omega) (by have qa0 : Int32.toInt 0 = 0 := (by decide); omega)
            exact hlp76_647825 (((z647702.toInt : Int) + 2 - z647700.toInt).toNat + 1) 1 z647700 (gB_w (gBl (show Int32.toInt 1 = 1 by decide)) (by decide) (by decide)) (gB_w bz647700 (by decide) (by decide)) (by have qa0 : Int32.toInt 0 = 0 := (by decide); have qa1 : Int32.toInt 1 = 1 := (by decide); omega) (by have qa0 : Int32.toInt 0 = 0 := (by decide); have qa1 : Int32.toInt 1 = 1 := (by decide); omega) (by have qa0 : Int32.toInt 0 = 0 := (by decide); have qa1 : Int32.toInt 1 = 1 := (by decide); omega) (by have qa0 : Int32.toInt 0 = 0 := (by decide); have qa1 : Int32.toInt 1 = 1 := (by decide); omega) (Nat.lt_succ_self _)
        · have r647844 : z647693.toInt ≠ z641777.toInt := gC_ne hc647694
          have hlp30_648456 : ∀ (n30_648456 : Nat) (g648454 : Int32), gB g648454 (-2147483646) 16777215 → 0 ≤ g648454.toInt → g647688.toInt ≤ g648454.toInt → ((z641778.toInt : Int) + 2 - g648454.toInt).toNat < n30_648456 → G (gV D I) l (gRm 0 0 0 0) (gMA (gV D I) (pp_641776_StringLatin1_indexOf D I P641764 F641765 q641766 qs641767 bs641768 p641769 p641770 f641771 n641772) gNA 0 0) ky_641776_StringLatin1_indexOf 30 [(7, .int g648454), (6, .int z641778), (5, .int z641777), (0, .ref qs641767), (1, .int p641769), (2, .ref q641766), (3, .int p641770), (4, .int 0)] [] (va_pl P641764 F641765) 0 0 := by
            intro n30_648456
            induction n30_648456 with
            | zero => intro g648454 bg648454 x648455 x648456 hm30_648456; exact absurd hm30_648456 (Nat.not_lt_zero _)
            | succ n30_648456 ih30_648456 =>
              intro g648454 bg648454 x648455 x648456 hm30_648456
              obtain ⟨z648457, hz648457⟩ : ∃ z : Int32, z = g648454 + Int32.ofInt 1 := ⟨_, rfl⟩
              have ez648457 : z648457.toInt = g648454.toInt + 1 := gI_inc hz648457 (by decide) bg648454 (by decide) (by decide)
              have bz648457 : gB z648457 (-2147483645) 16777216 := ⟨by omega, by omega⟩
              refine G_iinc (L' := [(7, .int z648457), (6, .int z641778), (5, .int z641777), (0, .ref qs641767), (1, .int p641769), (2, .ref q641766), (3, .int p641770), (4, .int 0)]) z648457 0 dr_cJ1_indexOf_5af95_30 rfl hz648457.symm (Nat.le_of_ble_eq_true rfl) rfl ?_
              refine G_iload 0 dr_cJ1_indexOf_5af95_33 rfl ?_
              refine G_iload 1 dr_cJ1_indexOf_5af95_35 rfl ?_
              refine G_icmp_gt 52 dr_cJ1_indexOf_5af95_37 (by decide +kernel) (fun hc648458 => ?_) (fun hc648458 => ?_)
              · have r648459 : z641778.toInt < z648457.toInt := gC_lt hc648458
                have bz648457' : gB z648457 (-16777215) 16777216 := ⟨by omega, by omega⟩
                refine G_iload 0 dr_cJ1_indexOf_5af95_52 rfl ?_
                refine G_iload 1 dr_cJ1_indexOf_5af95_54 rfl ?_
                refine G_icmp_gt 113 dr_cJ1_indexOf_5af95_56 (by decide +kernel) (fun hc648460 => ?_) (fun hc648460 => ?_)
                · have r648461 : z641778.toInt < z648457.toInt := gC_lt hc648460
                  obtain ⟨z648462, hz648462⟩ : ∃ z : Int32, z = z648457 + Int32.ofInt 1 := ⟨_, rfl⟩
                  have ez648462 : z648462.toInt = z648457.toInt + 1 := gI_inc hz648462 (by decide) bz648457' (by decide) (by decide)
                  have bz648462 : gB z648462 (-16777214) 16777217 := ⟨by omega, by omega⟩
                  refine G_iinc (L' := [(7, .int z648462), (6, .int z641778), (5, .int z641777), (0, .ref qs641767), (1, .int p641769), (2, .ref q641766), (3, .int p641770), (4, .int 0)]) z648462 0 dr_cJ1_indexOf_5af95_113 rfl hz648462.symm (Nat.le_of_ble_eq_true rfl) rfl ?_
                  refine G_goto 14 dr_cJ1_indexOf_5af95_116 (by decide +kernel) ?_
                  exact ih14_647689 z648462 (gB_w bz648462 (by decide) (by decide)) (by have qa0 : Int32.toInt 0 = 0 := (by decide); omega) (by have qa0 : Int32.toInt 0 = 0 := (by decide); omega)
                · have r648463 : z648457.toInt ≤ z641778.toInt := gC_nlt hc648460
                  have bz648457'' : gB z648457 (-16777215) 16777215 := ⟨by omega, by omega⟩
                  have bz641778' : gB z641778 (-16777215) 16777215 := ⟨by omega, by omega⟩
                  refine G_iload 0 dr_cJ1_indexOf_5af95_59 rfl ?_
                  refine G_iconst 1 dr_cJ1_indexOf_5af95_61 (by decide +kernel) ?_
                  refine G_iadd dr_cJ1_indexOf_5af95_62 (G_nam fun z648464 hz648464 => ?_)
                  have ez648464 : z648464.toInt = z648457.toInt + 1 := by rw [gI_add hz648464 bz648457'' (gBl (show Int32.toInt 1 = 1 by decide)) (by decide) (by decide), show Int32.toInt 1 = 1 from by decide]
                  have bz648464 : gB z648464 (-16777214) 16777216 := gB_add (gI_add hz648464 bz648457'' (gBl (show Int32.toInt 1 = 1 by decide)) (by decide) (by decide)) bz648457'' (gBl (show Int32.toInt 1 = 1 by decide)) (by decide) (by decide)
                  refine G_istore (L' := [(8, .int z648464), (7, .int z648457), (6, .int z641778), (5, .int z641777), (0, .ref qs641767), (1, .int p641769), (2, .ref q641766), (3, .int p641770), (4, .int 0)]) dr_cJ1_indexOf_5af95_63 (Nat.le_of_ble_eq_true rfl) rfl ?_
                  refine G_iload 0 dr_cJ1_indexOf_5af95_65 rfl ?_
                  refine G_iload_n 7 dr_cJ1_indexOf_5af95_67 rfl ?_
                  refine G_iadd dr_cJ1_indexOf_5af95_68 (G_nam fun z648465 hz648465 => ?_)
                  have ez648465 : z648465.toInt = z648464.toInt + p641770.toInt := by rw [gI_add hz648465 bz648464 bp641770 (by decide) (by decide)]
                  have bz648465 : gB z648465 (-16777213) 33554432 := gB_add (gI_add hz648465 bz648464 bp641770 (by decide) (by decide)) bz648464 bp641770 (by decide) (by decide)
                  refine G_iconst 1 dr_cJ1_indexOf_5af95_69 (by decide +kernel) ?_
                  refine G_isub dr_cJ1_indexOf_5af95_70 (G_nam fun z648466 hz648466 => ?_)
                  have ez648466 : z648466.toInt = z648465.toInt - 1 := by rw [gI_sub hz648466 bz648465 (gBl (show Int32.toInt 1 = 1 by decide)) (by decide) (by decide), show Int32.toInt 1 = 1 from by decide]
                  have bz648466 : gB z648466 (-16777214) 33554431 := gB_sub (gI_sub hz648466 bz648465 (gBl (show Int32.toInt 1 = 1 by decide)) (by decide) (by decide)) bz648465 (gBl (show Int32.toInt 1 = 1 by decide)) (by decide) (by decide)
                  refine G_istore (L' := [(9, .int z648466), (8, .int z648464), (7, .int z648457), (6, .int z641778), (5, .int z641777), (0, .ref qs641767), (1, .int p641769), (2, .ref q641766), (3, .int p641770), (4, .int 0)]) dr_cJ1_indexOf_5af95_71 (Nat.le_of_ble_eq_true rfl) rfl ?_
                  refine G_iconst 1 dr_cJ1_indexOf_5af95_73 (by decide +kernel) ?_
                  refine G_istore (L' := [(10, .int 1), (9, .int z648466), (8, .int z648464), (7, .int z648457), (6, .int z641778), (5, .int z641777), (0, .ref qs641767), (1, .int p641769), (2, .ref q641766), (3, .int p641770), (4, .int 0)]) dr_cJ1_indexOf_5af95_74 (Nat.le_of_ble_eq_true rfl) rfl ?_
                  have hlp76_648589 : ∀ (n76_648589 : Nat) (g648584 : Int32) (g648585 : Int32), gB g648584 1 16777217 → gB g648585 (-16777214) 33554431 → 0 ≤ g648585.toInt → g648584.toInt = g648585.toInt - z648457.toInt → 1 ≤ g648584.toInt → g648585.toInt ≤ z648466.toInt → ((z648466.toInt : Int) + 2 - g648585.toInt).toNat < n76_648589 → G (gV D I) l (gRm 0 0 0 0) (gMA (gV D I) (pp_641776_StringLatin1_indexOf D I P641764 F641765 q641766 qs641767 bs641768 p641769 p641770 f641771 n641772) gNA 0 0) ky_641776_StringLatin1_indexOf 76 [(10, .int g648584), (9, .int z648466), (8, .int g648585), (7, .int z648457), (6, .int z641778), (5, .int z641777), (0, .ref qs641767), (1, .int p641769), (2, .ref q641766), (3, .int p641770), (4, .int 0)] [] (va_pl P641764 F641765) 0 0 := by
                    intro n76_648589
                    induction n76_648589 with
                    | zero => intro g648584 g648585 bg648584 bg648585 x648586 x648587 x648588 x648589 hm76_648589; exact absurd hm76_648589 (Nat.not_lt_zero _)
                    | succ n76_648589 ih76_648589 =>
                      intro g648584 g648585 bg648584 bg648585 x648586 x648587 x648588 x648589 hm76_648589
                      refine G_iload 2 dr_cJ1_indexOf_5af95_76 rfl ?_
                      refine G_iload 1 dr_cJ1_indexOf_5af95_78 rfl ?_
                      refine G_icmp_ge 103 dr_cJ1_indexOf_5af95_80 (by decide +kernel) (fun hc648590 => ?_) (fun hc648590 => ?_)
                      · have r648591 : z648466.toInt ≤ g648585.toInt := gC_le hc648590
                        refine G_iload 2 dr_cJ1_indexOf_5af95_103 rfl ?_
                        refine G_iload 1 dr_cJ1_indexOf_5af95_105 rfl ?_
                        refine G_icmp_ne 113 dr_cJ1_indexOf_5af95_107 (by decide +kernel) (fun hc648592 => ?_) (fun hc648592 => ?_)
                        · have r648593 : g648585.toInt ≠ z648466.toInt := gC_ne hc648592
                          obtain ⟨z648594, hz648594⟩ : ∃ z : Int32, z = z648457 + Int32.ofInt 1 := ⟨_, rfl⟩
                          have ez648594 : z648594.toInt = z648457.toInt + 1 := gI_inc hz648594 (by decide) bz648457'' (by decide) (by decide)
                          have bz648594 : gB z648594 (-16777214) 16777216 := ⟨by omega, by omega⟩
                          refine G_iinc (L' := [(7, .int z648594), (10, .int g648584), (9, .int z648466), (8, .int g648585), (6, .int z641778), (5, .int z641777), (0, .ref qs641767), (1, .int p641769), (2, .ref q641766), (3, .int p641770), (4, .int 0)]) z648594 3 dr_cJ1_indexOf_5af95_113 rfl hz648594.symm (Nat.le_of_ble_eq_true rfl) rfl ?_
                          refine G_goto 14 dr_cJ1_indexOf_5af95_116 (by decide +kernel) ?_
                          refine G_lv (L' := [(7, .int z648594), (6, .int z641778), (5, .int z641777), (0, .ref qs641767), (1, .int p641769), (2, .ref q641766), (3, .int p641770), (4, .int 0)]) [0, 4, 5, 6, 7, 8, 9, 10] rfl ?_
                          exact ih14_647689 z648594 (gB_w bz648594 (by decide) (by decide)) (by have qa0 : Int32.toInt 0 = 0 := (by decide); omega) (by have qa0 : Int32.toInt 0 = 0 := (by decide); omega)
                        · have r648595 : g648585.toInt = z648466.toInt := gC_eq hc648592
                          refine G_iload 3 dr_cJ1_indexOf_5af95_110 rfl ?_
                          exact G_iretA dr_cJ1_indexOf_5af95_112 rfl (Nat.le_of_ble_eq_true rfl) (Nat.le_of_ble_eq_true rfl) ⟨z648457, rfl, rfl, (Nat.le_of_ble_eq_true rfl), (Nat.le_of_ble_eq_true rfl), (gB_w bz648457'' (by decide) (by decide)), (by have qa0 : Int32.toInt 0 = 0 := (by decide); omega), (by first | exact ixP_of (by assumption) (by assumption) (by omega) | exact absurd (show False by omega) not_false)⟩
                      · have r648596 : g648585.toInt < z648466.toInt := gC_nle hc648590
                        have bg648585' : gB g648585 (-16777214) 33554430 := ⟨by omega, by omega⟩
                        have bz648466' : gB z648466 (-16777213) 33554431 := ⟨by omega, by omega⟩
                        refine G_aload_n 6 dr_cJ1_indexOf_5af95_83 rfl ?_
                        refine G_iload 2 dr_cJ1_indexOf_5af95_84 rfl ?_
                        refine G_kbald (f := fun j => bs641768.getD j 0) dr_cJ1_indexOf_5af95_86 hbs641768 (gB_inr (by omega) (by omega)) (G_nam fun z648597 hz648597 => ?_)
                        have bz648597 : gB z648597 (-2147483648) 2147483647 := gB_any z648597
                        refine G_aload_n 8 dr_cJ1_indexOf_5af95_87 rfl ?_
                        refine G_iload 0 dr_cJ1_indexOf_5af95_88 rfl ?_
                        refine Gp_bald 1 hmq641766 heq641766 dr_cJ1_indexOf_5af95_90 rfl (gB_inr (by omega) (by omega)) (G_nam fun z648598 hz648598 => ?_)
                        have bz648598 : gB z648598 (-128) 127 := by rw [hz648598]; exact bf641771 _
                        refine G_icmp_ne 103 dr_cJ1_indexOf_5af95_91 (by decide +kernel) (fun hc648599 => ?_) (fun hc648599 => ?_)
                        · have r648600 : z648597.toInt ≠ z648598.toInt := gC_ne hc648599
                          refine G_iload 2 dr_cJ1_indexOf_5af95_103 rfl ?_
                          refine G_iload 1 dr_cJ1_indexOf_5af95_105 rfl ?_
                          refine G_icmp_ne 113 dr_cJ1_indexOf_5af95_107 (by decide +kernel) (fun hc648601 => ?_) (fun hc648601 => ?_)
                          · have r648602 : g648585.toInt ≠ z648466.toInt := gC_ne hc648601
                            obtain ⟨z648603, hz648603⟩ : ∃ z : Int32, z = z648457 + Int32.ofInt 1 := ⟨_, rfl⟩
                            have ez648603 : z648603.toInt = z648457.toInt + 1 := gI_inc hz648603 (by decide) bz648457'' (by decide) (by decide)
                            have bz648603 : gB z648603 (-16777214) 16777216 := ⟨by omega, by omega⟩
                            refine G_iinc (L' := [(7, .int z648603), (10, .int g648584), (9, .int z648466), (8, .int g648585), (6, .int z641778), (5, .int z641777), (0, .ref qs641767), (1, .int p641769), (2, .ref q641766), (3, .int p641770), (4, .int 0)]) z648603 3 dr_cJ1_indexOf_5af95_113 rfl hz648603.symm (Nat.le_of_ble_eq_true rfl) rfl ?_
                            refine G_goto 14 dr_cJ1_indexOf_5af95_116 (by decide +kernel) ?_
                            refine G_lv (L' := [(7, .int z648603), (6, .int z641778), (5, .int z641777), (0, .ref qs641767), (1, .int p641769), (2, .ref q641766), (3, .int p641770), (4, .int 0)]) [0, 4, 5, 6, 7, 8, 9, 10] rfl ?_
                            exact ih14_647689 z648603 (gB_w bz648603 (by decide) (by decide)) (by have qa0 : Int32.toInt 0 = 0 := (by decide); omega) (by have qa0 : Int32.toInt 0 = 0 := (by decide); omega)
                          · have r648604 : g648585.toInt = z648466.toInt := gC_eq hc648601
                            have bg648585'' : gB g648585 (-16777213) 33554430 := ⟨by omega, by omega⟩
                            have bz648466'' : gB z648466 (-16777213) 33554430 := ⟨by omega, by omega⟩
                            refine G_iload 3 dr_cJ1_indexOf_5af95_110 rfl ?_
                            exact G_iretA dr_cJ1_indexOf_5af95_112 rfl (Nat.le_of_ble_eq_true rfl) (Nat.le_of_ble_eq_true rfl) ⟨z648457, rfl, rfl, (Nat.le_of_ble_eq_true rfl), (Nat.le_of_ble_eq_true rfl), (gB_w bz648457'' (by decide) (by decide)), (by have qa0 : Int32.toInt 0 = 0 := (by decide); omega), (by first | exact ixP_of (by assumption) (by assumption) (by omega) | exact absurd (show False by omega) not_false)⟩
                        · have r648605 : z648597.toInt = z648598.toInt := gC_eq hc648599
                          have bz648597' : gB z648597 (-128) 127 := ⟨by omega, by omega⟩
                          obtain ⟨z648606, hz648606⟩ : ∃ z : Int32, z = g648585 + Int32.ofInt 1 := ⟨_, rfl⟩
                          have ez648606 : z648606.toInt = g648585.toInt + 1 := gI_inc hz648606 (by decide) bg648585' (by decide) (by decide)
                          have bz648606 : gB z648606 (-16777213) 33554431 := ⟨by omega, by omega⟩
                          refine G_iinc (L' := [(8, .int z648606), (10, .int g648584), (9, .int z648466), (7, .int z648457), (6, .int z641778), (5, .int z641777), (0, .ref qs641767), (1, .int p641769), (2, .ref q641766), (3, .int p641770), (4, .int 0)]) z648606 2 dr_cJ1_indexOf_5af95_94 rfl hz648606.symm (Nat.le_of_ble_eq_true rfl) rfl ?_
                          have bg648584' : gB g648584 1 16777216 := ⟨by omega, by omega⟩
                          obtain ⟨z648607, hz648607⟩ : ∃ z : Int32, z = g648584 + Int32.ofInt 1 := ⟨_, rfl⟩
                          have ez648607 : z648607.toInt = g648584.toInt + 1 := gI_inc hz648607 (by decide) bg648584' (by decide) (by decide)
                          have bz648607 : gB z648607 2 16777217 := ⟨by omega, by omega⟩
                          refine G_iinc (L' := [(10, .int z648607), (8, .int z648606), (9, .int z648466), (7, .int z648457), (6, .int z641778), (5, .int z641777), (0, .ref qs641767), (1, .int p641769), (2, .ref q641766), (3, .int p641770), (4, .int 0)]) z648607 1 dr_cJ1_indexOf_5af95_97 rfl hz648607.symm (Nat.le_of_ble_eq_true rfl) rfl ?_
                          refine G_goto 76 dr_cJ1_indexOf_5af95_100 (by decide +kernel) ?_
                          refine G_lv (L' := [(10, .int z648607), (9, .int z648466), (8, .int z648606), (7, .int z648457), (6, .int z641778), (5, .int z641777), (0, .ref qs641767), (1, .int p641769), (2, .ref q641766), (3, .int p641770), (4, .int 0)]) [0, 2, 1, 3, 4, 5, 6, 7, 8, 9, 10] rfl ?_
                          exact ih76_648589 z648607 z648606 (gB_w bz648607 (by decide) (by decide)) (gB_w bz648606 (by decide) (by decide)) (by have qa0 : Int32.toInt 0 = 0 := (by decide); omega) (by have qa0 : Int32.toInt 0 = 0 := (by decide); omega) (by have qa0 : Int32.toInt 0 = 0 := (by decide); omega) (by have qa0 : Int32.toInt 0 = 0 := (by decide); omega) (by have qa0 : Int32.toInt 0 = 0 := (by decide); omega)
                  exact hlp76_648589 (((z648466.toInt : Int) + 2 - z648464.toInt).toNat + 1) 1 z648464 (gB_w (gBl (show Int32.toInt 1 = 1 by decide)) (by decide) (by decide)) (gB_w bz648464 (by decide) (by decide)) (by have qa0 : Int32.toInt 0 = 0 := (by decide); have qa1 : Int32.toInt 1 = 1 := (by decide); omega) (by have qa0 : Int32.toInt 0 = 0 := (by decide); have qa1 : Int32.toInt 1 = 1 := (by decide); omega) (by have qa0 : Int32.toInt 0 = 0 := (by decide); have qa1 : Int32.toInt 1 = 1 := (by decide); omega) (by have qa0 : Int32.toInt 0 = 0 := (by decide); have qa1 : Int32.toInt 1 = 1 := (by decide); omega) (Nat.lt_succ_self _)
              · have r648608 : z648457.toInt ≤ z641778.toInt := gC_nlt hc648458
                have bz648457' : gB z648457 (-2147483645) 16777215 := ⟨by omega, by omega⟩
                refine G_aload_n 3 dr_cJ1_indexOf_5af95_40 rfl ?_
                refine G_iload 0 dr_cJ1_indexOf_5af95_41 rfl ?_
                refine G_kbald (f := fun j => bs641768.getD j 0) dr_cJ1_indexOf_5af95_43 hbs641768 (gB_inr (by omega) (by omega)) (G_nam fun z648609 hz648609 => ?_)
                have bz648609 : gB z648609 (-2147483648) 2147483647 := gB_any z648609
                refine G_iload 2 dr_cJ1_indexOf_5af95_44 rfl ?_
                refine G_icmp_eq 52 dr_cJ1_indexOf_5af95_46 (by decide +kernel) (fun hc648610 => ?_) (fun hc648610 => ?_)
                · have r648611 : z648609.toInt = z641777.toInt := gC_eq hc648610
                  have bz648609' : gB z648609 (-128) 127 := ⟨by omega, by omega⟩
                  refine G_iload 0 dr_cJ1_indexOf_5af95_52 rfl ?_
                  refine G_iload 1 dr_cJ1_indexOf_5af95_54 rfl ?_
                  refine G_icmp_gt 113 dr_cJ1_indexOf_5af95_56 (by decide +kernel) (fun hc648612 => ?_) (fun hc648612 => ?_)
                  · have r648613 : z641778.toInt < z648457.toInt := gC_lt hc648612
                    have bz641778' : gB z641778 (-16777216) 16777214 := ⟨by omega, by omega⟩
                    have bz648457'' : gB z648457 (-16777215) 16777215 := ⟨by omega, by omega⟩
                    obtain ⟨z648614, hz648614⟩ : ∃ z : Int32, z = z648457 + Int32.ofInt 1 := ⟨_, rfl⟩
                    have ez648614 : z648614.toInt = z648457.toInt + 1 := gI_inc hz648614 (by decide) bz648457'' (by decide) (by decide)
                    have bz648614 : gB z648614 (-16777214) 16777216 := ⟨by omega, by omega⟩
                    refine G_iinc (L' := [(7, .int z648614), (6, .int z641778), (5, .int z641777), (0, .ref qs641767), (1, .int p641769), (2, .ref q641766), (3, .int p641770), (4, .int 0)]) z648614 0 dr_cJ1_indexOf_5af95_113 rfl hz648614.symm (Nat.le_of_ble_eq_true rfl) rfl ?_
                    refine G_goto 14 dr_cJ1_indexOf_5af95_116 (by decide +kernel) ?_
                    exact ih14_647689 z648614 (gB_w bz648614 (by decide) (by decide)) (by have qa0 : Int32.toInt 0 = 0 := (by decide); omega) (by have qa0 : Int32.toInt 0 = 0 := (by decide); omega)
                  · have r648615 : z648457.toInt ≤ z641778.toInt := gC_nlt hc648612
                    refine G_iload 0 dr_cJ1_indexOf_5af95_59 rfl ?_
                    refine G_iconst 1 dr_cJ1_indexOf_5af95_61 (by decide +kernel) ?_
                    refine G_iadd dr_cJ1_indexOf_5af95_62 (G_nam fun z648616 hz648616 => ?_)
                    have ez648616 : z648616.toInt = z648457.toInt + 1 := by rw [gI_add hz648616 bz648457' (gBl (show Int32.toInt 1 = 1 by decide)) (by decide) (by decide), show Int32.toInt 1 = 1 from by decide]
                    have bz648616 : gB z648616 (-2147483644) 16777216 := gB_add (gI_add hz648616 bz648457' (gBl (show Int32.toInt 1 = 1 by decide)) (by decide) (by decide)) bz648457' (gBl (show Int32.toInt 1 = 1 by decide)) (by decide) (by decide)
                    refine G_istore (L' := [(8, .int z648616), (7, .int z648457), (6, .int z641778), (5, .int z641777), (0, .ref qs641767), (1, .int p641769), (2, .ref q641766), (3, .int p641770), (4, .int 0)]) dr_cJ1_indexOf_5af95_63 (Nat.le_of_ble_eq_true rfl) rfl ?_
                    refine G_iload 0 dr_cJ1_indexOf_5af95_65 rfl ?_
                    refine G_iload_n 7 dr_cJ1_indexOf_5af95_67 rfl ?_
                    refine G_iadd dr_cJ1_indexOf_5af95_68 (G_nam fun z648617 hz648617 => ?_)
                    have ez648617 : z648617.toInt = z648616.toInt + p641770.toInt := by rw [gI_add hz648617 bz648616 bp641770 (by decide) (by decide)]
                    have bz648617 : gB z648617 (-2147483643) 33554432 := gB_add (gI_add hz648617 bz648616 bp641770 (by decide) (by decide)) bz648616 bp641770 (by decide) (by decide)
                    refine G_iconst 1 dr_cJ1_indexOf_5af95_69 (by decide +kernel) ?_
                    refine G_isub dr_cJ1_indexOf_5af95_70 (G_nam fun z648618 hz648618 => ?_)
                    have ez648618 : z648618.toInt = z648617.toInt - 1 := by rw [gI_sub hz648618 bz648617 (gBl (show Int32.toInt 1 = 1 by decide)) (by decide) (by decide), show Int32.toInt 1 = 1 from by decide]
                    have bz648618 : gB z648618 (-2147483644) 33554431 := gB_sub (gI_sub hz648618 bz648617 (gBl (show Int32.toInt 1 = 1 by decide)) (by decide) (by decide)) bz648617 (gBl (show Int32.toInt 1 = 1 by decide)) (by decide) (by decide)
                    refine G_istore (L' := [(9, .int z648618), (8, .int z648616), (7, .int z648457), (6, .int z641778), (5, .int z641777), (0, .ref qs641767), (1, .int p641769), (2, .ref q641766), (3, .int p641770), (4, .int 0)]) dr_cJ1_indexOf_5af95_71 (Nat.le_of_ble_eq_true rfl) rfl ?_
                    refine G_iconst 1 dr_cJ1_indexOf_5af95_73 (by decide +kernel) ?_
                    refine G_istore (L' := [(10, .int 1), (9, .int z648618), (8, .int z648616), (7, .int z648457), (6, .int z641778), (5, .int z641777), (0, .ref qs641767), (1, .int p641769), (2, .ref q641766), (3, .int p641770), (4, .int 0)]) dr_cJ1_indexOf_5af95_74 (Nat.le_of_ble_eq_true rfl) rfl ?_
                    have hlp76_648741 : ∀ (n76_648741 : Nat) (g648736 : Int32) (g648737 : Int32), gB g648736 1 16777217 → gB g648737 (-2147483644) 33554431 → 0 ≤ g648737.toInt → g648736.toInt = g648737.toInt - z648457.toInt → 1 ≤ g648736.toInt → g648737.toInt ≤ z648618.toInt → ((z648618.toInt : Int) + 2 - g648737.toInt).toNat < n76_648741 → G (gV D I) l (gRm 0 0 0 0) (gMA (gV D I) (pp_641776_StringLatin1_indexOf D I P641764 F641765 q641766 qs641767 bs641768 p641769 p641770 f641771 n641772) gNA 0 0) ky_641776_StringLatin1_indexOf 76 [(10, .int g648736), (9, .int z648618), (8, .int g648737), (7, .int z648457), (6, .int z641778), (5, .int z641777), (0, .ref qs641767), (1, .int p641769), (2, .ref q641766), (3, .int p641770), (4, .int 0)] [] (va_pl P641764 F641765) 0 0 := by
                      intro n76_648741
                      induction n76_648741 with
                      | zero => intro g648736 g648737 bg648736 bg648737 x648738 x648739 x648740 x648741 hm76_648741; exact absurd hm76_648741 (Nat.not_lt_zero _)
                      | succ n76_648741 ih76_648741 =>
                        intro g648736 g648737 bg648736 bg648737 x648738 x648739 x648740 x648741 hm76_648741
                        refine G_iload 2 dr_cJ1_indexOf_5af95_76 rfl ?_
                        refine G_iload 1 dr_cJ1_indexOf_5af95_78 rfl ?_
                        refine G_icmp_ge 103 dr_cJ1_indexOf_5af95_80 (by decide +kernel) (fun hc648742 => ?_) (fun hc648742 => ?_)
                        · have r648743 : z648618.toInt ≤ g648737.toInt := gC_le hc648742
                          refine G_iload 2 dr_cJ1_indexOf_5af95_103 rfl ?_
                          refine G_iload 1 dr_cJ1_indexOf_5af95_105 rfl ?_
                          refine G_icmp_ne 113 dr_cJ1_indexOf_5af95_107 (by decide +kernel) (fun hc648744 => ?_) (fun hc648744 => ?_)
                          · have r648745 : g648737.toInt ≠ z648618.toInt := gC_ne hc648744
                            obtain ⟨z648746, hz648746⟩ : ∃ z : Int32, z = z648457 + Int32.ofInt 1 := ⟨_, rfl⟩
                            have ez648746 : z648746.toInt = z648457.toInt + 1 := gI_inc hz648746 (by decide) bz648457' (by decide) (by decide)
                            have bz648746 : gB z648746 (-2147483644) 16777216 := ⟨by omega, by omega⟩
                            refine G_iinc (L' := [(7, .int z648746), (10, .int g648736), (9, .int z648618), (8, .int g648737), (6, .int z641778), (5, .int z641777), (0, .ref qs641767), (1, .int p641769), (2, .ref q641766), (3, .int p641770), (4, .int 0)]) z648746 3 dr_cJ1_indexOf_5af95_113 rfl hz648746.symm (Nat.le_of_ble_eq_true rfl) rfl ?_
                            refine G_goto 14 dr_cJ1_indexOf_5af95_116 (by decide +kernel) ?_
                            refine G_lv (L' := [(7, .int z648746), (6, .int z641778), (5, .int z641777), (0, .ref qs641767), (1, .int p641769), (2, .ref q641766), (3, .int p641770), (4, .int 0)]) [0, 4, 5, 6, 7, 8, 9, 10] rfl ?_
                            exact ih14_647689 z648746 (gB_w bz648746 (by decide) (by decide)) (by have qa0 : Int32.toInt 0 = 0 := (by decide); omega) (by have qa0 : Int32.toInt 0 = 0 := (by decide); omega)
                          · have r648747 : g648737.toInt = z648618.toInt := gC_eq hc648744
                            refine G_iload 3 dr_cJ1_indexOf_5af95_110 rfl ?_
                            exact G_iretA dr_cJ1_indexOf_5af95_112 rfl (Nat.le_of_ble_eq_true rfl) (Nat.le_of_ble_eq_true rfl) ⟨z648457, rfl, rfl, (Nat.le_of_ble_eq_true rfl), (Nat.le_of_ble_eq_true rfl), (gB_w bz648457' (by decide) (by decide)), (by have qa0 : Int32.toInt 0 = 0 := (by decide); omega), (by first | exact ixP_of (by assumption) (by assumption) (by omega) | exact absurd (show False by omega) not_false)⟩
                        · have r648748 : g648737.toInt < z648618.toInt := gC_nle hc648742
                          have bg648737' : gB g648737 (-2147483644) 33554430 := ⟨by omega, by omega⟩
                          have bz648618' : gB z648618 (-2147483643) 33554431 := ⟨by omega, by omega⟩
                          refine G_aload_n 6 dr_cJ1_indexOf_5af95_83 rfl ?_
                          refine G_iload 2 dr_cJ1_indexOf_5af95_84 rfl ?_
                          refine G_kbald (f := fun j => bs641768.getD j 0) dr_cJ1_indexOf_5af95_86 hbs641768 (gB_inr (by omega) (by omega)) (G_nam fun z648749 hz648749 => ?_)
                          have bz648749 : gB z648749 (-2147483648) 2147483647 := gB_any z648749
                          refine G_aload_n 8 dr_cJ1_indexOf_5af95_87 rfl ?_
                          refine G_iload 0 dr_cJ1_indexOf_5af95_88 rfl ?_
                          refine Gp_bald 1 hmq641766 heq641766 dr_cJ1_indexOf_5af95_90 rfl (gB_inr (by omega) (by omega)) (G_nam fun z648750 hz648750 => ?_)
                          have bz648750 : gB z648750 (-128) 127 := by rw [hz648750]; exact bf641771 _
                          refine G_icmp_ne 103 dr_cJ1_indexOf_5af95_91 (by decide +kernel) (fun hc648751 => ?_) (fun hc648751 => ?_)
                          · have r648752 : z648749.toInt ≠ z648750.toInt := gC_ne hc648751
                            refine G_iload 2 dr_cJ1_indexOf_5af95_103 rfl ?_
                            refine G_iload 1 dr_cJ1_indexOf_5af95_105 rfl ?_
                            refine G_icmp_ne 113 dr_cJ1_indexOf_5af95_107 (by decide +kernel) (fun hc648753 => ?_) (fun hc648753 => ?_)
                            · have r648754 : g648737.toInt ≠ z648618.toInt := gC_ne hc648753
                              obtain ⟨z648755, hz648755⟩ : ∃ z : Int32, z = z648457 + Int32.ofInt 1 := ⟨_, rfl⟩
                              have ez648755 : z648755.toInt = z648457.toInt + 1 := gI_inc hz648755 (by decide) bz648457' (by decide) (by decide)
                              have bz648755 : gB z648755 (-2147483644) 16777216 := ⟨by omega, by omega⟩
                              refine G_iinc (L' := [(7, .int z648755), (10, .int g648736), (9, .int z648618), (8, .int g648737), (6, .int z641778), (5, .int z641777), (0, .ref qs641767), (1, .int p641769), (2, .ref q641766), (3, .int p641770), (4, .int 0)]) z648755 3 dr_cJ1_indexOf_5af95_113 rfl hz648755.symm (Nat.le_of_ble_eq_true rfl) rfl ?_
                              refine G_goto 14 dr_cJ1_indexOf_5af95_116 (by decide +kernel) ?_
                              refine G_lv (L' := [(7, .int z648755), (6, .int z641778), (5, .int z641777), (0, .ref qs641767), (1, .int p641769), (2, .ref q641766), (3, .int p641770), (4, .int 0)]) [0, 4, 5, 6, 7, 8, 9, 10] rfl ?_
                              exact ih14_647689 z648755 (gB_w bz648755 (by decide) (by decide)) (by have qa0 : Int32.toInt 0 = 0 := (by decide); omega) (by have qa0 : Int32.toInt 0 = 0 := (by decide); omega)
                            · have r648756 : g648737.toInt = z648618.toInt := gC_eq hc648753
                              have bg648737'' : gB g648737 (-2147483643) 33554430 := ⟨by omega, by omega⟩
                              have bz648618'' : gB z648618 (-2147483643) 33554430 := ⟨by omega, by omega⟩
                              refine G_iload 3 dr_cJ1_indexOf_5af95_110 rfl ?_
                              exact G_iretA dr_cJ1_indexOf_5af95_112 rfl (Nat.le_of_ble_eq_true rfl) (Nat.le_of_ble_eq_true rfl) ⟨z648457, rfl, rfl, (Nat.le_of_ble_eq_true rfl), (Nat.le_of_ble_eq_true rfl), (gB_w bz648457' (by decide) (by decide)), (by have qa0 : Int32.toInt 0 = 0 := (by decide); omega), (by first | exact ixP_of (by assumption) (by assumption) (by omega) | exact absurd (show False by omega) not_false)⟩
                          · have r648757 : z648749.toInt = z648750.toInt := gC_eq hc648751
                            have bz648749' : gB z648749 (-128) 127 := ⟨by omega, by omega⟩
                            obtain ⟨z648758, hz648758⟩ : ∃ z : Int32, z = g648737 + Int32.ofInt 1 := ⟨_, rfl⟩
                            have ez648758 : z648758.toInt = g648737.toInt + 1 := gI_inc hz648758 (by decide) bg648737' (by decide) (by decide)
                            have bz648758 : gB z648758 (-2147483643) 33554431 := ⟨by omega, by omega⟩
                            refine G_iinc (L' := [(8, .int z648758), (10, .int g648736), (9, .int z648618), (7, .int z648457), (6, .int z641778), (5, .int z641777), (0, .ref qs641767), (1, .int p641769), (2, .ref q641766), (3, .int p641770), (4, .int 0)]) z648758 2 dr_cJ1_indexOf_5af95_94 rfl hz648758.symm (Nat.le_of_ble_eq_true rfl) rfl ?_
                            have bg648736' : gB g648736 1 16777216 := ⟨by omega, by omega⟩
                            obtain ⟨z648759, hz648759⟩ : ∃ z : Int32, z = g648736 + Int32.ofInt 1 := ⟨_, rfl⟩
                            have ez648759 : z648759.toInt = g648736.toInt + 1 := gI_inc hz648759 (by decide) bg648736' (by decide) (by decide)
                            have bz648759 : gB z648759 2 16777217 := ⟨by omega, by omega⟩
                            refine G_iinc (L' := [(10, .int z648759), (8, .int z648758), (9, .int z648618), (7, .int z648457), (6, .int z641778), (5, .int z641777), (0, .ref qs641767), (1, .int p641769), (2, .ref q641766), (3, .int p641770), (4, .int 0)]) z648759 1 dr_cJ1_indexOf_5af95_97 rfl hz648759.symm (Nat.le_of_ble_eq_true rfl) rfl ?_
                            refine G_goto 76 dr_cJ1_indexOf_5af95_100 (by decide +kernel) ?_
                            refine G_lv (L' := [(10, .int z648759), (9, .int z648618), (8, .int z648758), (7, .int z648457), (6, .int z641778), (5, .int z641777), (0, .ref qs641767), (1, .int p641769), (2, .ref q641766), (3, .int p641770), (4, .int 0)]) [0, 2, 1, 3, 4, 5, 6, 7, 8, 9, 10] rfl ?_
                            exact ih76_648741 z648759 z648758 (gB_w bz648759 (by decide) (by decide)) (gB_w bz648758 (by decide) (by decide)) (by have qa0 : Int32.toInt 0 = 0 := (by decide); omega) (by have qa0 : Int32.toInt 0 = 0 := (by decide); omega) (by have qa0 : Int32.toInt 0 = 0 := (by decide); omega) (by have qa0 : Int32.toInt 0 = 0 := (by decide); omega) (by have qa0 : Int32.toInt 0 = 0 := (by decide); omega)
                    exact hlp76_648741 (((z648618.toInt : Int) + 2 - z648616.toInt).toNat + 1) 1 z648616 (gB_w (gBl (show Int32.toInt 1 = 1 by decide)) (by decide) (by decide)) (gB_w bz648616 (by decide) (by decide)) (by have qa0 : Int32.toInt 0 = 0 := (by decide); have qa1 : Int32.toInt 1 = 1 := (by decide); omega) (by have qa0 : Int32.toInt 0 = 0 := (by decide); have qa1 : Int32.toInt 1 = 1 := (by decide); omega) (by have qa0 : Int32.toInt 0 = 0 := (by decide); have qa1 : Int32.toInt 1 = 1 := (by decide); omega) (by have qa0 : Int32.toInt 0 = 0 := (by decide); have qa1 : Int32.toInt 1 = 1 := (by decide); omega) (Nat.lt_succ_self _)
                · have r648760 : z648609.toInt ≠ z641777.toInt := gC_ne hc648610
                  refine G_goto 30 dr_cJ1_indexOf_5af95_49 (by decide +kernel) ?_
                  exact ih30_648456 z648457 (gB_w bz648457' (by decide) (by decide)) (by have qa0 : Int32.toInt 0 = 0 := (by decide); omega) (by have qa0 : Int32.toInt 0 = 0 := (by decide); omega) (by have qa0 : Int32.toInt 0 = 0 := (by decide); omega)
          exact hlp30_648456 (((z641778.toInt : Int) + 2 - g647688.toInt).toNat + 1) g647688 bg647688' (by have qa0 : Int32.toInt 0 = 0 := (by decide); omega) (by have qa0 : Int32.toInt 0 = 0 := (by decide); omega) (Nat.lt_succ_self _)
  exact hlp14_647689 (((z641778.toInt : Int) + 2 - 0).toNat + 1) 0 (gB_w (gBl (show Int32.toInt 0 = 0 by decide)) (by decide) (by decide)) (by have qa0 : Int32.toInt 0 = 0 := (by decide); omega) (Nat.lt_succ_self _)
abbrev ky_641754_StringLatin1_indexOf : gKey := (cJ1_indexOf_b82b6, 2, "java/lang/StringLatin1", (some FieldType.int), [], "indexOf", fun _ _ => True)
def pp_641754_StringLatin1_indexOf (D : va_G) (I : FieldType → ClassId) (P641745 : List Nat) (F641746 : Nat → va_E) (q641747 : Nat) (qs641748 : Nat) (bs641749 : List Int32) (f641750 : Nat → Int32) (n641751 : Nat) : Option Value → va_W → Nat → Nat → Prop := fun r w dc ds => ∃ (o648771 : Int32), r = some (.int o648771) ∧ w = va_pl P641745 F641746 ∧ dc ≤ 0 ∧ ds ≤ 0 ∧ gB o648771 (-2147483646) 16777215 ∧ (o648771.toInt < 0 ∨ o648771.toInt + (n641751 : Int) ≤ (bs641749.length : Int)) ∧ ixP (fun j => bs641749.getD j 0) f641750 o648771
set_option maxRecDepth 100000 in
set_option maxHeartbeats 4000000 in
theorem cp_641754_StringLatin1_indexOf (l : Launch) (hl0 : l.stackTraces = false) (D : va_G) (I : FieldType → ClassId) (P641745 : List Nat) (F641746 : Nat → va_E) (q641747 : Nat) (qs641748 : Nat) (bs641749 : List Int32) (f641750 : Nat → Int32) (n641751 : Nat) (hmq641747 : q641747 ∈ P641745) (heq641747 : F641746 q641747 = .inl (I .byte, n641751, .inl f641750)) (hbs641749 : ∀ A s H, (gV D I).2.2.2.1 A s H → va_T .byte qs641748 bs641749.length (fun j => .int (bs641749.getD j 0)) A s H) (nbs641749 : (bs641749.length : Int) ≤ 65535) (lbs641749 : gLB bs641749) (bf641750 : gF f641750 (-128) 127) (x641752 : 1 ≤ (n641751 : Int)) (x641753 : ((n641751 : Int) ≤ 16777216)) : CtA (gV D I) l yJ1_indexOf_b82b6 cJ1_indexOf_b82b6 2 (some FieldType.int) 1 30 0 0 [.ref qs641748, .ref q641747] (va_pl P641745 F641746) (pp_641754_StringLatin1_indexOf D I P641745 F641746 q641747 qs641748 bs641749 f641750 n641751) gNA := by
  refine CtA_ofF hl0 (by decide +kernel) (Nat.le_of_ble_eq_true rfl) ?_
  refine G_aload_n 1 dr_cJ1_indexOf_b82b6_0 rfl ?_
  refine Gp_alen (Int32.ofNat n641751) 1 hmq641747 heq641747 dr_cJ1_indexOf_b82b6_1 rfl rfl (G_nam fun z641755 hz641755 => ?_)
  have ez641755 : z641755.toInt = (n641751 : Nat) := gI_ofM hz641755 (by omega)
  have bz641755 : gB z641755 0 16777216 := ⟨by omega, by omega⟩
  refine G_if_ne 7 dr_cJ1_indexOf_b82b6_2 (by decide +kernel) (fun hc641756 => ?_) (fun hc => absurd (show False by have := gj_eq hc (show Int32.toInt 0 = 0 by decide); omega) not_false)
  have r641758 : z641755.toInt ≠ 0 := gj_neq hc641756 (show Int32.toInt 0 = 0 by decide)
  have bz641755' : gB z641755 1 16777216 := ⟨by omega, by omega⟩
  refine G_aload_n 0 dr_cJ1_indexOf_b82b6_7 rfl ?_
  refine G_klen dr_cJ1_indexOf_b82b6_8 hbs641749 (G_nam fun z641759 hz641759 => ?_)
  have ez641759 : z641759.toInt = (bs641749.length : Int) := gI_ofN hz641759 nbs641749
  have bz641759 : gB z641759 0 65535 := ⟨by omega, by omega⟩
  refine G_if_ne 14 dr_cJ1_indexOf_b82b6_9 (by decide +kernel) (fun hc641760 => ?_) (fun hc641760 => ?_)
  · have r641761 : z641759.toInt ≠ 0 := gj_neq hc641760 (show Int32.toInt 0 = 0 by decide)
    have bz641759' : gB z641759 1 65535 := ⟨by omega, by omega⟩
    refine G_aload_n 0 dr_cJ1_indexOf_b82b6_14 rfl ?_
    refine G_aload_n 0 dr_cJ1_indexOf_b82b6_15 rfl ?_
    refine G_klen dr_cJ1_indexOf_b82b6_16 hbs641749 (G_nam fun z641762 hz641762 => ?_)
    have ez641762 : z641762.toInt = (bs641749.length : Int) := gI_ofN hz641762 nbs641749
    have bz641762 : gB z641762 0 65535 := ⟨by omega, by omega⟩
    refine G_aload_n 1 dr_cJ1_indexOf_b82b6_17 rfl ?_
    refine G_aload_n 1 dr_cJ1_indexOf_b82b6_18 rfl ?_
    refine Gp_alen (Int32.ofNat n641751) 1 hmq641747 heq641747 dr_cJ1_indexOf_b82b6_19 rfl rfl (G_nam fun z641763 hz641763 => ?_)
    have ez641763 : z641763.toInt = (n641751 : Nat) := gI_ofM hz641763 (by omega)
    have bz641763 : gB z641763 0 16777216 := ⟨by omega, by omega⟩
    refine G_iconst 0 dr_cJ1_indexOf_b82b6_20 (by decide +kernel) ?_
    refine Gw_callS (As := [.ref qs641748, .int z641762, .ref q641747, .int z641763, .int 0]) (gV_ok D I) (cp_641776_StringLatin1_indexOf l hl0 D I P641745 F641746 q641747 qs641748 bs641749 z641762 z641763 f641750 n641751 hmq641747 heq641747 hbs641749 nbs641749 lbs641749 (gB_w bz641762 (by decide) (by decide)) ⟨by omega, by omega⟩ bf641750 (by omega) (by omega) (by omega)) dr_cJ1_indexOf_b82b6_21 ⟨wr_8_203, wr_1_28, wr_8_205, by decide, rfl, (Nat.le_of_ble_eq_true rfl), (Nat.le_of_ble_eq_true rfl)⟩ wr_8_204 (show 0 + 0 ≤ 0 by first | omega | decide) (show 0 + 0 ≤ 0 by first | omega | decide) (Nat.le_of_ble_eq_true rfl) (fun r648765 w648766 dc648762 ds648763 hp648764 => ?_) (fun _ _ _ _ _ z => z.elim)
    obtain ⟨o648767, rfl, rfl, hdc, hds, bo648767, x648768, x648769⟩ := hp648764
    change G _ _ _ _ _ _ _ (.int o648767 :: _) _ _ _
    refine G_widen (cs' := 0) (sl' := 0) (by omega) (by omega) ?_
    exact G_iretA dr_cJ1_indexOf_b82b6_24 rfl (Nat.le_of_ble_eq_true rfl) (Nat.le_of_ble_eq_true rfl) ⟨o648767, rfl, rfl, (Nat.le_of_ble_eq_true rfl), (Nat.le_of_ble_eq_true rfl), bo648767, (by omega), x648769⟩
  · have r648770 : z641759.toInt = 0 := gj_eq hc641760 (show Int32.toInt 0 = 0 by decide)
    have bz641759' : gB z641759 0 0 := ⟨by omega, by omega⟩
    refine G_iconst (-1) dr_cJ1_indexOf_b82b6_12 (by decide +kernel) ?_
    exact G_iretA dr_cJ1_indexOf_b82b6_13 rfl (Nat.le_of_ble_eq_true rfl) (Nat.le_of_ble_eq_true rfl) ⟨(-1), rfl, rfl, (Nat.le_of_ble_eq_true rfl), (Nat.le_of_ble_eq_true rfl), (gB_w (gBl (show Int32.toInt (-1) = (-1) by decide)) (by decide) (by decide)), (by have qa0 : Int32.toInt (-1) = (-1) := (by decide); omega), (ixP_n (by decide))⟩
