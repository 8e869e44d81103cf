theorem dr_cJ0_charAt_5068e_0 : decode cJ0_charAt_5068e 0 = .ok (.aload_n 0, 1) := by decide +kernel
theorem dr_cJ0_charAt_5068e_1 : decode cJ0_charAt_5068e 1 = .ok (.invokevirtual 492, 3) := by decide +kernel
theorem wr_3_71 : (Jvm.Cond.methodLink "java/lang/String" (492 : Nat) ({ cls := "java/lang/String", name := "isLatin1", desc := "()Z" } : Jvm.MethodName)) ∈ gw := gw_3 71 rfl rfl
theorem wr_3_74 : (Jvm.Cond.code ({ cls := "java/lang/String", name := "isLatin1", desc := "()Z" } : Jvm.MethodName) prog_34_method_154_code (1 : Nat) (Option.some Jvm.ClassFile.FieldType.boolean)) ∈ gw := gw_3 74 rfl rfl
theorem wr_3_72 : (Jvm.Cond.instanceMethod ({ cls := "java/lang/String", name := "isLatin1", desc := "()Z" } : Jvm.MethodName)) ∈ gw := gw_3 72 rfl rfl
theorem wr_3_73 : (Jvm.Cond.selects "java/lang/String" ({ cls := "java/lang/String", name := "isLatin1", desc := "()Z" } : Jvm.MethodName) ({ cls := "java/lang/String", name := "isLatin1", desc := "()Z" } : Jvm.MethodName)) ∈ gw := gw_3 73 rfl rfl
theorem dr_cJ0_charAt_5068e_4 : decode cJ0_charAt_5068e 4 = .ok (.ifCond .eq 12, 3) := by decide +kernel
theorem dr_cJ0_charAt_5068e_7 : decode cJ0_charAt_5068e 7 = .ok (.aload_n 0, 1) := by decide +kernel
theorem dr_cJ0_charAt_5068e_8 : decode cJ0_charAt_5068e 8 = .ok (.getfield 9, 3) := by decide +kernel
theorem dr_cJ0_charAt_5068e_11 : decode cJ0_charAt_5068e 11 = .ok (.iload_n 1, 1) := by decide +kernel
theorem dr_cJ0_charAt_5068e_12 : decode cJ0_charAt_5068e 12 = .ok (.invokestatic 495, 3) := by decide +kernel
theorem wr_3_75 : (Jvm.Cond.methodLink "java/lang/String" (495 : Nat) ({ cls := "java/lang/StringLatin1", name := "charAt", desc := "([BI)C" } : Jvm.MethodName)) ∈ gw := gw_3 75 rfl rfl
theorem wr_3_77 : (Jvm.Cond.code ({ cls := "java/lang/StringLatin1", name := "charAt", desc := "([BI)C" } : Jvm.MethodName) prog_37_method_2_code (2 : Nat) (Option.some Jvm.ClassFile.FieldType.char)) ∈ gw := gw_3 77 rfl rfl
theorem wr_3_76 : (Jvm.Cond.static ({ cls := "java/lang/StringLatin1", name := "charAt", desc := "([BI)C" } : Jvm.MethodName)) ∈ gw := gw_3 76 rfl rfl
theorem dr_cJ0_charAt_5068e_15 : decode cJ0_charAt_5068e 15 = .ok (.ireturn, 1) := by decide +kernel
theorem dr_cJ1_indexOf_5af95_0 : decode cJ1_indexOf_5af95 0 = .ok (.aload_n 2, 1) := by decide +kernel
theorem dr_cJ1_indexOf_5af95_1 : decode cJ1_indexOf_5af95 1 = .ok (.iconst 0, 1) := by decide +kernel
theorem dr_cJ1_indexOf_5af95_2 : decode cJ1_indexOf_5af95 2 = .ok (.baload, 1) := by decide +kernel
theorem dr_cJ1_indexOf_5af95_3 : decode cJ1_indexOf_5af95 3 = .ok (.istore 5, 2) := by decide +kernel
theorem dr_cJ1_indexOf_5af95_5 : decode cJ1_indexOf_5af95 5 = .ok (.iload_n 1, 1) := by decide +kernel
theorem dr_cJ1_indexOf_5af95_6 : decode cJ1_indexOf_5af95 6 = .ok (.iload_n 3, 1) := by decide +kernel
theorem dr_cJ1_indexOf_5af95_7 : decode cJ1_indexOf_5af95 7 = .ok (.isub, 1) := by decide +kernel
theorem dr_cJ1_indexOf_5af95_8 : decode cJ1_indexOf_5af95 8 = .ok (.istore 6, 2) := by decide +kernel
theorem dr_cJ1_indexOf_5af95_10 : decode cJ1_indexOf_5af95 10 = .ok (.iload 4, 2) := by decide +kernel
theorem dr_cJ1_indexOf_5af95_12 : decode cJ1_indexOf_5af95 12 = .ok (.istore 7, 2) := by decide +kernel
theorem dr_cJ1_indexOf_5af95_14 : decode cJ1_indexOf_5af95 14 = .ok (.iload 7, 2) := by decide +kernel
theorem dr_cJ1_indexOf_5af95_16 : decode cJ1_indexOf_5af95 16 = .ok (.iload 6, 2) := by decide +kernel
theorem dr_cJ1_indexOf_5af95_18 : decode cJ1_indexOf_5af95 18 = .ok (.if_icmp .gt 101, 3) := by decide +kernel
theorem dr_cJ1_indexOf_5af95_119 : decode cJ1_indexOf_5af95 119 = .ok (.iconst (-1), 1) := by decide +kernel
theorem dr_cJ1_indexOf_5af95_120 : decode cJ1_indexOf_5af95 120 = .ok (.ireturn, 1) := by decide +kernel
theorem dr_cJ1_indexOf_5af95_21 : decode cJ1_indexOf_5af95 21 = .ok (.aload_n 0, 1) := by decide +kernel
theorem dr_cJ1_indexOf_5af95_22 : decode cJ1_indexOf_5af95 22 = .ok (.iload 7, 2) := by decide +kernel
theorem dr_cJ1_indexOf_5af95_24 : decode cJ1_indexOf_5af95 24 = .ok (.baload, 1) := by decide +kernel
theorem dr_cJ1_indexOf_5af95_25 : decode cJ1_indexOf_5af95 25 = .ok (.iload 5, 2) := by decide +kernel
theorem dr_cJ1_indexOf_5af95_27 : decode cJ1_indexOf_5af95 27 = .ok (.if_icmp .eq 25, 3) := by decide +kernel
theorem dr_cJ1_indexOf_5af95_52 : decode cJ1_indexOf_5af95 52 = .ok (.iload 7, 2) := by decide +kernel
theorem dr_cJ1_indexOf_5af95_54 : decode cJ1_indexOf_5af95 54 = .ok (.iload 6, 2) := by decide +kernel
theorem dr_cJ1_indexOf_5af95_56 : decode cJ1_indexOf_5af95 56 = .ok (.if_icmp .gt 57, 3) := by decide +kernel
theorem dr_cJ1_indexOf_5af95_113 : decode cJ1_indexOf_5af95 113 = .ok (.iinc 7 1, 3) := by decide +kernel
theorem dr_cJ1_indexOf_5af95_116 : decode cJ1_indexOf_5af95 116 = .ok (.goto (-102), 3) := by decide +kernel
theorem dr_cJ1_indexOf_5af95_59 : decode cJ1_indexOf_5af95 59 = .ok (.iload 7, 2) := by decide +kernel
theorem dr_cJ1_indexOf_5af95_61 : decode cJ1_indexOf_5af95 61 = .ok (.iconst 1, 1) := by decide +kernel
theorem dr_cJ1_indexOf_5af95_62 : decode cJ1_indexOf_5af95 62 = .ok (.iadd, 1) := by decide +kernel
theorem dr_cJ1_indexOf_5af95_63 : decode cJ1_indexOf_5af95 63 = .ok (.istore 8, 2) := by decide +kernel
theorem dr_cJ1_indexOf_5af95_65 : decode cJ1_indexOf_5af95 65 = .ok (.iload 8, 2) := by decide +kernel
theorem dr_cJ1_indexOf_5af95_67 : decode cJ1_indexOf_5af95 67 = .ok (.iload_n 3, 1) := by decide +kernel
theorem dr_cJ1_indexOf_5af95_68 : decode cJ1_indexOf_5af95 68 = .ok (.iadd, 1) := by decide +kernel
theorem dr_cJ1_indexOf_5af95_69 : decode cJ1_indexOf_5af95 69 = .ok (.iconst 1, 1) := by decide +kernel
theorem dr_cJ1_indexOf_5af95_70 : decode cJ1_indexOf_5af95 70 = .ok (.isub, 1) := by decide +kernel
theorem dr_cJ1_indexOf_5af95_71 : decode cJ1_indexOf_5af95 71 = .ok (.istore 9, 2) := by decide +kernel
theorem dr_cJ1_indexOf_5af95_73 : decode cJ1_indexOf_5af95 73 = .ok (.iconst 1, 1) := by decide +kernel
theorem dr_cJ1_indexOf_5af95_74 : decode cJ1_indexOf_5af95 74 = .ok (.istore 10, 2) := by decide +kernel
theorem dr_cJ1_indexOf_5af95_76 : decode cJ1_indexOf_5af95 76 = .ok (.iload 8, 2) := by decide +kernel
theorem dr_cJ1_indexOf_5af95_78 : decode cJ1_indexOf_5af95 78 = .ok (.iload 9, 2) := by decide +kernel
theorem dr_cJ1_indexOf_5af95_80 : decode cJ1_indexOf_5af95 80 = .ok (.if_icmp .ge 23, 3) := by decide +kernel
theorem dr_cJ1_indexOf_5af95_103 : decode cJ1_indexOf_5af95 103 = .ok (.iload 8, 2) := by decide +kernel
theorem dr_cJ1_indexOf_5af95_105 : decode cJ1_indexOf_5af95 105 = .ok (.iload 9, 2) := by decide +kernel
theorem dr_cJ1_indexOf_5af95_107 : decode cJ1_indexOf_5af95 107 = .ok (.if_icmp .ne 6, 3) := by decide +kernel
theorem dr_cJ1_indexOf_5af95_110 : decode cJ1_indexOf_5af95 110 = .ok (.iload 7, 2) := by decide +kernel
theorem dr_cJ1_indexOf_5af95_112 : decode cJ1_indexOf_5af95 112 = .ok (.ireturn, 1) := by decide +kernel
theorem dr_cJ1_indexOf_5af95_83 : decode cJ1_indexOf_5af95 83 = .ok (.aload_n 0, 1) := by decide +kernel
theorem dr_cJ1_indexOf_5af95_84 : decode cJ1_indexOf_5af95 84 = .ok (.iload 8, 2) := by decide +kernel
theorem dr_cJ1_indexOf_5af95_86 : decode cJ1_indexOf_5af95 86 = .ok (.baload, 1) := by decide +kernel
theorem dr_cJ1_indexOf_5af95_87 : decode cJ1_indexOf_5af95 87 = .ok (.aload_n 2, 1) := by decide +kernel
theorem dr_cJ1_indexOf_5af95_88 : decode cJ1_indexOf_5af95 88 = .ok (.iload 10, 2) := by decide +kernel
theorem dr_cJ1_indexOf_5af95_90 : decode cJ1_indexOf_5af95 90 = .ok (.baload, 1) := by decide +kernel
theorem dr_cJ1_indexOf_5af95_91 : decode cJ1_indexOf_5af95 91 = .ok (.if_icmp .ne 12, 3) := by decide +kernel
theorem dr_cJ1_indexOf_5af95_94 : decode cJ1_indexOf_5af95 94 = .ok (.iinc 8 1, 3) := by decide +kernel
theorem dr_cJ1_indexOf_5af95_97 : decode cJ1_indexOf_5af95 97 = .ok (.iinc 10 1, 3) := by decide +kernel
theorem dr_cJ1_indexOf_5af95_100 : decode cJ1_indexOf_5af95 100 = .ok (.goto (-24), 3) := by decide +kernel
theorem dr_cJ1_indexOf_5af95_30 : decode cJ1_indexOf_5af95 30 = .ok (.iinc 7 1, 3) := by decide +kernel
theorem dr_cJ1_indexOf_5af95_33 : decode cJ1_indexOf_5af95 33 = .ok (.iload 7, 2) := by decide +kernel
theorem dr_cJ1_indexOf_5af95_35 : decode cJ1_indexOf_5af95 35 = .ok (.iload 6, 2) := by decide +kernel
theorem dr_cJ1_indexOf_5af95_37 : decode cJ1_indexOf_5af95 37 = .ok (.if_icmp .gt 15, 3) := by decide +kernel
theorem dr_cJ1_indexOf_5af95_40 : decode cJ1_indexOf_5af95 40 = .ok (.aload_n 0, 1) := by decide +kernel
theorem dr_cJ1_indexOf_5af95_41 : decode cJ1_indexOf_5af95 41 = .ok (.iload 7, 2) := by decide +kernel
theorem dr_cJ1_indexOf_5af95_43 : decode cJ1_indexOf_5af95 43 = .ok (.baload, 1) := by decide +kernel
theorem dr_cJ1_indexOf_5af95_44 : decode cJ1_indexOf_5af95 44 = .ok (.iload 5, 2) := by decide +kernel
theorem dr_cJ1_indexOf_5af95_46 : decode cJ1_indexOf_5af95 46 = .ok (.if_icmp .eq 6, 3) := by decide +kernel
theorem dr_cJ1_indexOf_5af95_49 : decode cJ1_indexOf_5af95 49 = .ok (.goto (-19), 3) := by decide +kernel
theorem dr_cJ1_indexOf_b82b6_0 : decode cJ1_indexOf_b82b6 0 = .ok (.aload_n 1, 1) := by decide +kernel
theorem dr_cJ1_indexOf_b82b6_1 : decode cJ1_indexOf_b82b6 1 = .ok (.arraylength, 1) := by decide +kernel
theorem dr_cJ1_indexOf_b82b6_2 : decode cJ1_indexOf_b82b6 2 = .ok (.ifCond .ne 5, 3) := by decide +kernel
theorem dr_cJ1_indexOf_b82b6_7 : decode cJ1_indexOf_b82b6 7 = .ok (.aload_n 0, 1) := by decide +kernel
theorem dr_cJ1_indexOf_b82b6_8 : decode cJ1_indexOf_b82b6 8 = .ok (.arraylength, 1) := by decide +kernel
theorem dr_cJ1_indexOf_b82b6_9 : decode cJ1_indexOf_b82b6 9 = .ok (.ifCond .ne 5, 3) := by decide +kernel
theorem dr_cJ1_indexOf_b82b6_14 : decode cJ1_indexOf_b82b6 14 = .ok (.aload_n 0, 1) := by decide +kernel
theorem dr_cJ1_indexOf_b82b6_15 : decode cJ1_indexOf_b82b6 15 = .ok (.aload_n 0, 1) := by decide +kernel
theorem dr_cJ1_indexOf_b82b6_16 : decode cJ1_indexOf_b82b6 16 = .ok (.arraylength, 1) := by decide +kernel
theorem dr_cJ1_indexOf_b82b6_17 : decode cJ1_indexOf_b82b6 17 = .ok (.aload_n 1, 1) := by decide +kernel
theorem dr_cJ1_indexOf_b82b6_18 : decode cJ1_indexOf_b82b6 18 = .ok (.aload_n 1, 1) := by decide +kernel
theorem dr_cJ1_indexOf_b82b6_19 : decode cJ1_indexOf_b82b6 19 = .ok (.arraylength, 1) := by decide +kernel
theorem dr_cJ1_indexOf_b82b6_20 : decode cJ1_indexOf_b82b6 20 = .ok (.iconst 0, 1) := by decide +kernel
theorem dr_cJ1_indexOf_b82b6_21 : decode cJ1_indexOf_b82b6 21 = .ok (.invokestatic 99, 3) := by decide +kernel
theorem wr_8_199 : (Jvm.Cond.methodLink "java/lang/StringLatin1" (99 : Nat) ({ cls := "java/lang/StringLatin1", name := "indexOf", desc := "([BI[BII)I" } : Jvm.MethodName)) ∈ gw := gw_8 199 rfl rfl
theorem wr_8_201 : (Jvm.Cond.code ({ cls := "java/lang/StringLatin1", name := "indexOf", desc := "([BI[BII)I" } : Jvm.MethodName) prog_37_method_25_code (11 : Nat) (Option.some Jvm.ClassFile.FieldType.int)) ∈ gw := gw_8 201 rfl rfl
theorem wr_8_200 : (Jvm.Cond.static ({ cls := "java/lang/StringLatin1", name := "indexOf", desc := "([BI[BII)I" } : Jvm.MethodName)) ∈ gw := gw_8 200 rfl rfl
theorem dr_cJ1_indexOf_b82b6_24 : decode cJ1_indexOf_b82b6 24 = .ok (.ireturn, 1) := by decide +kernel
theorem dr_cJ1_indexOf_b82b6_12 : decode cJ1_indexOf_b82b6 12 = .ok (.iconst (-1), 1) := by decide +kernel
theorem dr_cJ1_indexOf_b82b6_13 : decode cJ1_indexOf_b82b6 13 = .ok (.ireturn, 1) := by decide +kernel
abbrev ky_641574_String_charAt : gKey := (cJ0_charAt_5068e, 2, "java/lang/String", (some FieldType.char), [], "charAt", fun _ _ => True)
def pp_641574_String_charAt (D : va_G) (I : FieldType → ClassId) (P641567 : List Nat) (F641568 : Nat → va_E) (qs641569 : Nat) (qb641570 : Nat) (bs641571 : List Int32) (p641572 : Int32) : Option Value → va_W → Nat → Nat → Prop := fun r w dc ds => ∃ (o641609 : Int32), r = some (.int o641609) ∧ w = va_pl P641567 F641568 ∧ dc ≤ 0 ∧ ds ≤ 0 ∧ gB o641609 0 65535
set_option maxRecDepth 100000 in
set_option maxHeartbeats 4000000 in
theorem cp_641574_String_charAt (l : Launch) (hl0 : l.stackTraces = false) (D : va_G) (I : FieldType → ClassId) (P641567 : List Nat) (F641568 : Nat → va_E) (qs641569 : Nat) (qb641570 : Nat) (bs641571 : List Int32) (p641572 : Int32) (hbs641571 : ∀ A s H, (gV D I).2.2.2.1 A s H → gSC qs641569 qb641570 bs641571 A s H) (nbs641571 : (bs641571.length : Int) ≤ 65535) (lbs641571 : gLB bs641571) (bp641572 : gB p641572 0 65535) (x641573 : p641572.toInt < (bs641571.length : Int)) : CtA (gV D I) l yJ0_charAt_5068e cJ0_charAt_5068e 2 (some FieldType.char) 3 64 0 0 [.ref qs641569, .int p641572] (va_pl P641567 F641568) (pp_641574_String_charAt D I P641567 F641568 qs641569 qb641570 bs641571 p641572) gNA := by
  refine CtA_ofF hl0 (by decide +kernel) (Nat.le_of_ble_eq_true rfl) ?_
  refine G_aload_n 0 dr_cJ0_charAt_5068e_0 rfl ?_
  refine Gw_callVk (As := []) (gV_ok D I) (cp_641580_String_isLatin1 l hl0 D I P641567 F641568 qs641569 qb641570 bs641571 hbs641571 nbs641571 lbs641571) dr_cJ0_charAt_5068e_1 ⟨wr_3_71, wr_1_21, wr_3_74, by decide, rfl, (Nat.le_of_ble_eq_true rfl), (Nat.le_of_ble_eq_true rfl)⟩ wr_3_72 wr_3_73 (fun _ _ _ h => (hbs641571 _ _ _ h).1) (show 0 + 0 ≤ 0 by first | omega | decide) (show 0 + 0 ≤ 0 by first | omega | decide) (Nat.le_of_ble_eq_true rfl) (fun r641584 w641585 dc641581 ds641582 hp641583 => ?_) (fun _ _ _ _ _ z => z.elim)
  obtain ⟨rfl, rfl, hdc, hds⟩ := hp641583
  change G _ _ _ _ _ _ _ (.int 1 :: _) _ _ _
  refine G_widen (cs' := 0) (sl' := 0) (by omega) (by omega) ?_
  refine G_if_eq 16 dr_cJ0_charAt_5068e_4 (by decide +kernel) (fun hc => absurd hc (by decide)) (fun _ => ?_)
  refine G_aload_n 0 dr_cJ0_charAt_5068e_7 rfl ?_
  refine G_kget dr_cJ0_charAt_5068e_8 wr_8_178 (fun _ _ _ h => (hbs641571 _ _ _ h).2.2.1) ?_
  refine G_iload_n 1 dr_cJ0_charAt_5068e_11 rfl ?_
  refine Gw_callS (As := [.ref qb641570, .int p641572]) (gV_ok D I) (cp_641592_StringLatin1_charAt l hl0 D I P641567 F641568 qb641570 bs641571 p641572 (fun _ _ _ h => (hbs641571 _ _ _ h).2.2.2) (by omega) lbs641571 (gB_w bp641572 (by decide) (by decide)) (by omega)) dr_cJ0_charAt_5068e_12 ⟨wr_3_75, wr_1_28, wr_3_77, by decide, rfl, (Nat.le_of_ble_eq_true rfl), (Nat.le_of_ble_eq_true rfl)⟩ wr_3_76 (show 0 + 0 ≤ 0 by first | omega | decide) (show 0 + 0 ≤ 0 by first | omega | decide) (Nat.le_of_ble_eq_true rfl) (fun r641606 w641607 dc641603 ds641604 hp641605 => ?_) (fun _ _ _ _ _ z => z.elim)
  obtain ⟨o641608, rfl, rfl, hdc, hds, bo641608⟩ := hp641605
  change G _ _ _ _ _ _ _ (.int o641608 :: _) _ _ _
  refine G_widen (cs' := 0) (sl' := 0) (by omega) (by omega) ?_
  exact G_zretA FieldType.char dr_cJ0_charAt_5068e_15 rfl (gN_char bo641608) (Nat.le_of_ble_eq_true rfl) (Nat.le_of_ble_eq_true rfl) ⟨o641608, rfl, rfl, (Nat.le_of_ble_eq_true rfl), (Nat.le_of_ble_eq_true rfl), bo641608⟩
abbrev ky_641670_StringLatin1_indexOf : gKey := (cJ1_indexOf_5af95, 11, "java/lang/StringLatin1", (some FieldType.int), [], "indexOf", fun _ _ => True)
def pp_641670_StringLatin1_indexOf (D : va_G) (I : FieldType → ClassId) (P641658 : List Nat) (F641659 : Nat → va_E) (q641660 : Nat) (qs641661 : Nat) (bs641662 : List Int32) (p641663 : Int32) (p641664 : Int32) (f641665 : Nat → Int32) (n641666 : Nat) : Option Value → va_W → Nat → Nat → Prop := fun r w dc ds => ∃ (o648655 : Int32), r = some (.int o648655) ∧ w = va_pl P641658 F641659 ∧ dc ≤ 0 ∧ ds ≤ 0 ∧ gB o648655 (-2147483646) 16777215 ∧ (o648655.toInt < 0 ∨ o648655.toInt + p641664.toInt ≤ p641663.toInt) ∧ ixP (fun j => bs641662.getD j 0) f641665 o648655
set_option maxRecDepth 100000 in
set_option maxHeartbeats 4000000 in
theorem cp_641670_StringLatin1_indexOf (l : Launch) (hl0 : l.stackTraces = false) (D : va_G) (I : FieldType → ClassId) (P641658 : List Nat) (F641659 : Nat → va_E) (q641660 : Nat) (qs641661 : Nat) (bs641662 : List Int32) (p641663 : Int32) (p641664 : Int32) (f641665 : Nat → Int32) (n641666 : Nat) (hmq641660 : q641660 ∈ P641658) (heq641660 : F641659 q641660 = .inl (I .byte, n641666, .inl f641665)) (hbs641662 : ∀ A s H, (gV D I).2.2.2.1 A s H → va_T .byte qs641661 bs641662.length (fun j => .int (bs641662.getD j 0)) A s H) (nbs641662 : (bs641662.length : Int) ≤ 65535) (lbs641662 : gLB bs641662) (bp641663 : gB p641663 0 16777216) (bp641664 : gB p641664 1 16777216) (bf641665 : gF f641665 (-128) 127) (x641667 : p641663.toInt = (bs641662.length : Int)) (x641668 : p641664.toInt = (n641666 : Int)) (x641669 : ((n641666 : Int) ≤ 16777216)) : CtA (gV D I) l yJ1_indexOf_5af95 cJ1_indexOf_5af95 11 (some FieldType.int) 0 0 0 0 [.ref qs641661, .int p641663, .ref q641660, .int p641664, .int 0] (va_pl P641658 F641659) (pp_641670_StringLatin1_indexOf D I P641658 F641659 q641660 qs641661 bs641662 p641663 p641664 f641665 n641666) gNA := by
  refine CtA_ofF hl0 (by decide +kernel) (Nat.le_of_ble_eq_true rfl) ?_
  refine G_aload_n 2 dr_cJ1_indexOf_5af95_0 rfl ?_
  refine G_iconst 0 dr_cJ1_indexOf_5af95_1 (by decide +kernel) ?_
  refine Gp_bald 1 hmq641660 heq641660 dr_cJ1_indexOf_5af95_2 rfl (gB_inr (x := 0) (show (0 : Int) ≤ Int32.toInt 0 by decide) (show Int32.toInt 0 < _ by rw [show Int32.toInt 0 = 0 by decide]; omega)) (G_nam fun z641671 hz641671 => ?_)
  have bz641671 : gB z641671 (-128) 127 := by rw [hz641671]; exact bf641665 _
  refine G_istore (L' := [(5, .int z641671), (0, .ref qs641661), (1, .int p641663), (2, .ref q641660), (3, .int p641664), (4, .int 0)]) dr_cJ1_indexOf_5af95_3 (Nat.le_of_ble_eq_true rfl) rfl ?_
  refine G_iload_n 2 dr_cJ1_indexOf_5af95_5 rfl ?_
  refine G_iload_n 4 dr_cJ1_indexOf_5af95_6 rfl ?_
  refine G_isub dr_cJ1_indexOf_5af95_7 (G_nam fun z641672 hz641672 => ?_)
  have ez641672 : z641672.toInt = p641663.toInt - p641664.toInt := by rw [gI_sub hz641672 bp641663 bp641664 (by decide) (by decide)]
  have bz641672 : gB z641672 (-16777216) 16777215 := gB_sub (gI_sub hz641672 bp641663 bp641664 (by decide) (by decide)) bp641663 bp641664 (by decide) (by decide)
  refine G_istore (L' := [(6, .int z641672), (5, .int z641671), (0, .ref qs641661), (1, .int p641663), (2, .ref q641660), (3, .int p641664), (4, .int 0)]) dr_cJ1_indexOf_5af95_8 (Nat.le_of_ble_eq_true rfl) rfl ?_
  refine G_iload 6 dr_cJ1_indexOf_5af95_10 rfl ?_
  refine G_istore (L' := [(7, .int 0), (6, .int z641672), (5, .int z641671), (0, .ref qs641661), (1, .int p641663), (2, .ref q641660), (3, .int p641664), (4, .int 0)]) dr_cJ1_indexOf_5af95_12 (Nat.le_of_ble_eq_true rfl) rfl ?_
  have hlp14_647583 : ∀ (n14_647583 : Nat) (g647582 : Int32), gB g647582 (-2147483646) 16777217 → 0 ≤ g647582.toInt → ((z641672.toInt : Int) + 2 - g647582.toInt).toNat < n14_647583 → G (gV D I) l (gRm 0 0 0 0) (gMA (gV D I) (pp_641670_StringLatin1_indexOf D I P641658 F641659 q641660 qs641661 bs641662 p641663 p641664 f641665 n641666) gNA 0 0) ky_641670_StringLatin1_indexOf 14 [(7, .int g647582), (6, .int z641672), (5, .int z641671), (0, .ref qs641661), (1, .int p641663), (2, .ref q641660), (3, .int p641664), (4, .int 0)] [] (va_pl P641658 F641659) 0 0 := by
    intro n14_647583
    induction n14_647583 with
    | zero => intro g647582 bg647582 x647583 hm14_647583; exact absurd hm14_647583 (Nat.not_lt_zero _)
    | succ n14_647583 ih14_647583 =>
      intro g647582 bg647582 x647583 hm14_647583
      refine G_iload 0 dr_cJ1_indexOf_5af95_14 rfl ?_
      refine G_iload 1 dr_cJ1_indexOf_5af95_16 rfl ?_
      refine G_icmp_gt 119 dr_cJ1_indexOf_5af95_18 (by decide +kernel) (fun hc647584 => ?_) (fun hc647584 => ?_)
      · have r647585 : z641672.toInt < g647582.toInt := gC_lt hc647584
        have bg647582' : gB g647582 (-16777215) 16777217 := ⟨by omega, by omega⟩
        refine G_iconst (-1) dr_cJ1_indexOf_5af95_119 (by decide +kernel) ?_
        exact G_iretA dr_cJ1_indexOf_5af95_120 rfl (Nat.le_of_ble_eq_true rfl) (Nat.le_of_ble_eq_true rfl) ⟨(-1), rfl, rfl, (Nat.le_of_ble_eq_true rfl), (Nat.le_of_ble_eq_true rfl), (gB_w (gBl (show Int32.toInt (-1) = (-1) by decide)) (by decide) (by decide)), (by have qa0 : Int32.toInt (-1) = (-1) := (by decide); have qa1 : Int32.toInt 0 = 0 := (by decide); omega), (ixP_n (by decide))⟩
      · have r647586 : g647582.toInt ≤ z641672.toInt := gC_nlt hc647584
        have bg647582' : gB g647582 (-2147483646) 16777215 := ⟨by omega, by omega⟩
        refine G_aload_n 3 dr_cJ1_indexOf_5af95_21 rfl ?_
        refine G_iload 0 dr_cJ1_indexOf_5af95_22 rfl ?_
        refine G_kbald (f := fun j => bs641662.getD j 0) dr_cJ1_indexOf_5af95_24 hbs641662 (gB_inr (by omega) (by omega)) (G_nam fun z647587 hz647587 => ?_)
        have bz647587 : gB z647587 (-2147483648) 2147483647 := gB_any z647587
        refine G_iload 2 dr_cJ1_indexOf_5af95_25 rfl ?_
        refine G_icmp_eq 52 dr_cJ1_indexOf_5af95_27 (by decide +kernel) (fun hc647588 => ?_) (fun hc647588 => ?_)
        · have r647589 : z647587.toInt = z641671.toInt := gC_eq hc647588
          have bz647587' : gB z647587 (-128) 127 := ⟨by omega, by omega⟩
          refine G_iload 0 dr_cJ1_indexOf_5af95_52 rfl ?_
          refine G_iload 1 dr_cJ1_indexOf_5af95_54 rfl ?_
          refine G_icmp_gt 113 dr_cJ1_indexOf_5af95_56 (by decide +kernel) (fun hc647590 => ?_) (fun hc647590 => ?_)
          · have r647591 : z641672.toInt < g647582.toInt := gC_lt hc647590
            have bz641672' : gB z641672 (-16777216) 16777214 := ⟨by omega, by omega⟩
            have bg647582'' : gB g647582 (-16777215) 16777215 := ⟨by omega, by omega⟩
            obtain ⟨z647592, hz647592⟩ : ∃ z : Int32, z = g647582 + Int32.ofInt 1 := ⟨_, rfl⟩
            have ez647592 : z647592.toInt = g647582.toInt + 1 := gI_inc hz647592 (by decide) bg647582'' (by decide) (by decide)
            have bz647592 : gB z647592 (-16777214) 16777216 := ⟨by omega, by omega⟩
            refine G_iinc (L' := [(7, .int z647592), (6, .int z641672), (5, .int z641671), (0, .ref qs641661), (1, .int p641663), (2, .ref q641660), (3, .int p641664), (4, .int 0)]) z647592 0 dr_cJ1_indexOf_5af95_113 rfl hz647592.symm (Nat.le_of_ble_eq_true rfl) rfl ?_
            refine G_goto 14 dr_cJ1_indexOf_5af95_116 (by decide +kernel) ?_
            exact ih14_647583 z647592 (gB_w bz647592 (by decide) (by decide)) (by have qa0 : Int32.toInt 0 = 0 := (by decide); omega) (by have qa0 : Int32.toInt 0 = 0 := (by decide); omega)
          · have r647593 : g647582.toInt ≤ z641672.toInt := gC_nlt hc647590
            refine G_iload 0 dr_cJ1_indexOf_5af95_59 rfl ?_
            refine G_iconst 1 dr_cJ1_indexOf_5af95_61 (by decide +kernel) ?_
            refine G_iadd dr_cJ1_indexOf_5af95_62 (G_nam fun z647594 hz647594 => ?_)
            have ez647594 : z647594.toInt = g647582.toInt + 1 := by rw [gI_add hz647594 bg647582' (gBl (show Int32.toInt 1 = 1 by decide)) (by decide) (by decide), show Int32.toInt 1 = 1 from by decide]
            have bz647594 : gB z647594 (-2147483645) 16777216 := gB_add (gI_add hz647594 bg647582' (gBl (show Int32.toInt 1 = 1 by decide)) (by decide) (by decide)) bg647582' (gBl (show Int32.toInt 1 = 1 by decide)) (by decide) (by decide)
            refine G_istore (L' := [(8, .int z647594), (7, .int g647582), (6, .int z641672), (5, .int z641671), (0, .ref qs641661), (1, .int p641663), (2, .ref q641660), (3, .int p641664), (4, .int 0)]) dr_cJ1_indexOf_5af95_63 (Nat.le_of_ble_eq_true rfl) rfl ?_
            refine G_iload 0 dr_cJ1_indexOf_5af95_65 rfl ?_
            refine G_iload_n 7 dr_cJ1_indexOf_5af95_67 rfl ?_
            refine G_iadd dr_cJ1_indexOf_5af95_68 (G_nam fun z647595 hz647595 => ?_)
            have ez647595 : z647595.toInt = z647594.toInt + p641664.toInt := by rw [gI_add hz647595 bz647594 bp641664 (by decide) (by decide)]
            have bz647595 : gB z647595 (-2147483644) 33554432 := gB_add (gI_add hz647595 bz647594 bp641664 (by decide) (by decide)) bz647594 bp641664 (by decide) (by decide)
            refine G_iconst 1 dr_cJ1_indexOf_5af95_69 (by decide +kernel) ?_
            refine G_isub dr_cJ1_indexOf_5af95_70 (G_nam fun z647596 hz647596 => ?_)
            have ez647596 : z647596.toInt = z647595.toInt - 1 := by rw [gI_sub hz647596 bz647595 (gBl (show Int32.toInt 1 = 1 by decide)) (by decide) (by decide), show Int32.toInt 1 = 1 from by decide]
            have bz647596 : gB z647596 (-2147483645) 33554431 := gB_sub (gI_sub hz647596 bz647595 (gBl (show Int32.toInt 1 = 1 by decide)) (by decide) (by decide)) bz647595 (gBl (show Int32.toInt 1 = 1 by decide)) (by decide) (by decide)
            refine G_istore (L' := [(9, .int z647596), (8, .int z647594), (7, .int g647582), (6, .int z641672), (5, .int z641671), (0, .ref qs641661), (1, .int p641663), (2, .ref q641660), (3, .int p641664), (4, .int 0)]) dr_cJ1_indexOf_5af95_71 (Nat.le_of_ble_eq_true rfl) rfl ?_
            refine G_iconst 1 dr_cJ1_indexOf_5af95_73 (by decide +kernel) ?_
            refine G_istore (L' := [(10, .int 1), (9, .int z647596), (8, .int z647594), (7, .int g647582), (6, .int z641672), (5, .int z641671), (0, .ref qs641661), (1, .int p641663), (2, .ref q641660), (3, .int p641664), (4, .int 0)]) dr_cJ1_indexOf_5af95_74 (Nat.le_of_ble_eq_true rfl) rfl ?_
            have hlp76_647719 : ∀ (n76_647719 : Nat) (g647714 : Int32) (g647715 : Int32), gB g647714 1 16777217 → gB g647715 (-2147483645) 33554431 → 0 ≤ g647715.toInt → g647714.toInt = g647715.toInt - g647582.toInt → 1 ≤ g647714.toInt → g647715.toInt ≤ z647596.toInt → ((z647596.toInt : Int) + 2 - g647715.toInt).toNat < n76_647719 → G (gV D I) l (gRm 0 0 0 0) (gMA (gV D I) (pp_641670_StringLatin1_indexOf D I P641658 F641659 q641660 qs641661 bs641662 p641663 p641664 f641665 n641666) gNA 0 0) ky_641670_StringLatin1_indexOf 76 [(10, .int g647714), (9, .int z647596), (8, .int g647715), (7, .int g647582), (6, .int z641672), (5, .int z641671), (0, .ref qs641661), (1, .int p641663), (2, .ref q641660), (3, .int p641664), (4, .int 0)] [] (va_pl P641658 F641659) 0 0 := by
              intro n76_647719
              induction n76_647719 with
              | zero => intro g647714 g647715 bg647714 bg647715 x647716 x647717 x647718 x647719 hm76_647719; exact absurd hm76_647719 (Nat.not_lt_zero _)
              | succ n76_647719 ih76_647719 =>
                intro g647714 g647715 bg647714 bg647715 x647716 x647717 x647718 x647719 hm76_647719
                refine G_iload 2 dr_cJ1_indexOf_5af95_76 rfl ?_
                refine G_iload 1 dr_cJ1_indexOf_5af95_78 rfl ?_
                refine G_icmp_ge 103 dr_cJ1_indexOf_5af95_80 (by decide +kernel) (fun hc647720 => ?_) (fun hc647720 => ?_)
                · have r647721 : z647596.toInt ≤ g647715.toInt := gC_le hc647720
                  refine G_iload 2 dr_cJ1_indexOf_5af95_103 rfl ?_
                  refine G_iload 1 dr_cJ1_indexOf_5af95_105 rfl ?_
                  refine G_icmp_ne 113 dr_cJ1_indexOf_5af95_107 (by decide +kernel) (fun hc647722 => ?_) (fun hc647722 => ?_)
                  · have r647723 : g647715.toInt ≠ z647596.toInt := gC_ne hc647722
                    obtain ⟨z647724, hz647724⟩ : ∃ z : Int32, z = g647582 + Int32.ofInt 1 := ⟨_, rfl⟩
                    have ez647724 : z647724.toInt = g647582.toInt + 1 := gI_inc hz647724 (by decide) bg647582' (by decide) (by decide)
                    have bz647724 : gB z647724 (-2147483645) 16777216 := ⟨by omega, by omega⟩
                    refine G_iinc (L' := [(7, .int z647724), (10, .int g647714), (9, .int z647596), (8, .int g647715), (6, .int z641672), (5, .int z641671), (0, .ref qs641661), (1, .int p641663), (2, .ref q641660), (3, .int p641664), (4, .int 0)]) z647724 3 dr_cJ1_indexOf_5af95_113 rfl hz647724.symm (Nat.le_of_ble_eq_true rfl) rfl ?_
                    refine G_goto 14 dr_cJ1_indexOf_5af95_116 (by decide +kernel) ?_
                    refine G_lv (L' := [(7, .int z647724), (6, .int z641672), (5, .int z641671), (0, .ref qs641661), (1, .int p641663), (2, .ref q641660), (3, .int p641664), (4, .int 0)]) [0, 4, 5, 6, 7, 8, 9, 10] rfl ?_
                    exact ih14_647583 z647724 (gB_w bz647724 (by decide) (by decide)) (by have qa0 : Int32.toInt 0 = 0 := (by decide); omega) (by have qa0 : Int32.toInt 0 = 0 := (by decide); omega)
                  · have r647725 : g647715.toInt = z647596.toInt := gC_eq hc647722
                    refine G_iload 3 dr_cJ1_indexOf_5af95_110 rfl ?_
                    exact G_iretA dr_cJ1_indexOf_5af95_112 rfl (Nat.le_of_ble_eq_true rfl) (Nat.le_of_ble_eq_true rfl) ⟨g647582, rfl, rfl, (Nat.le_of_ble_eq_true rfl), (Nat.le_of_ble_eq_true rfl), bg647582', (by have qa0 : Int32.toInt 0 = 0 := (by decide); omega), (by first | exact ixP_of (by assumption) (by assumption) (by omega) | exact absurd (show False by omega) not_false)⟩
                · have r647726 : g647715.toInt < z647596.toInt := gC_nle hc647720
                  have bg647715' : gB g647715 (-2147483645) 33554430 := ⟨by omega, by omega⟩
                  have bz647596' : gB z647596 (-2147483644) 33554431 := ⟨by omega, by omega⟩
                  refine G_aload_n 6 dr_cJ1_indexOf_5af95_83 rfl ?_
                  refine G_iload 2 dr_cJ1_indexOf_5af95_84 rfl ?_
                  refine G_kbald (f := fun j => bs641662.getD j 0) dr_cJ1_indexOf_5af95_86 hbs641662 (gB_inr (by omega) (by omega)) (G_nam fun z647727 hz647727 => ?_)
                  have bz647727 : gB z647727 (-2147483648) 2147483647 := gB_any z647727
                  refine G_aload_n 8 dr_cJ1_indexOf_5af95_87 rfl ?_
                  refine G_iload 0 dr_cJ1_indexOf_5af95_88 rfl ?_
                  refine Gp_bald 1 hmq641660 heq641660 dr_cJ1_indexOf_5af95_90 rfl (gB_inr (by omega) (by omega)) (G_nam fun z647728 hz647728 => ?_)
                  have bz647728 : gB z647728 (-128) 127 := by rw [hz647728]; exact bf641665 _
                  refine G_icmp_ne 103 dr_cJ1_indexOf_5af95_91 (by decide +kernel) (fun hc647729 => ?_) (fun hc647729 => ?_)
                  · have r647730 : z647727.toInt ≠ z647728.toInt := gC_ne hc647729
                    refine G_iload 2 dr_cJ1_indexOf_5af95_103 rfl ?_
                    refine G_iload 1 dr_cJ1_indexOf_5af95_105 rfl ?_
                    refine G_icmp_ne 113 dr_cJ1_indexOf_5af95_107 (by decide +kernel) (fun hc647731 => ?_) (fun hc647731 => ?_)
                    · have r647732 : g647715.toInt ≠ z647596.toInt := gC_ne hc647731
                      obtain ⟨z647733, hz647733⟩ : ∃ z : Int32, z = g647582 + Int32.ofInt 1 := ⟨_, rfl⟩
                      have ez647733 : z647733.toInt = g647582.toInt + 1 := gI_inc hz647733 (by decide) bg647582' (by decide) (by decide)
                      have bz647733 : gB z647733 (-2147483645) 16777216 := ⟨by omega, by omega⟩
                      refine G_iinc (L' := [(7, .int z647733), (10, .int g647714), (9, .int z647596), (8, .int g647715), (6, .int z641672), (5, .int z641671), (0, .ref qs641661), (1, .int p641663), (2, .ref q641660), (3, .int p641664), (4, .int 0)]) z647733 3 dr_cJ1_indexOf_5af95_113 rfl hz647733.symm (Nat.le_of_ble_eq_true rfl) rfl ?_
                      refine G_goto 14 dr_cJ1_indexOf_5af95_116 (by decide +kernel) ?_
                      refine G_lv (L' := [(7, .int z647733), (6, .int z641672), (5, .int z641671), (0, .ref qs641661), (1, .int p641663), (2, .ref q641660), (3, .int p641664), (4, .int 0)]) [0, 4, 5, 6, 7, 8, 9, 10] rfl ?_
                      exact ih14_647583 z647733 (gB_w bz647733 (by decide) (by decide)) (by have qa0 : Int32.toInt 0 = 0 := (by decide); omega) (by have qa0 : Int32.toInt 0 = 0 := (by decide); omega)
                    · have r647734 : g647715.toInt = z647596.toInt := gC_eq hc647731
                      have bg647715'' : gB g647715 (-2147483644) 33554430 := ⟨by omega, by omega⟩
                      have bz647596'' : gB z647596 (-2147483644) 33554430 := ⟨by omega, by omega⟩
                      refine G_iload 3 dr_cJ1_indexOf_5af95_110 rfl ?_
                      exact G_iretA dr_cJ1_indexOf_5af95_112 rfl (Nat.le_of_ble_eq_true rfl) (Nat.le_of_ble_eq_true rfl) ⟨g647582, rfl, rfl, (Nat.le_of_ble_eq_true rfl), (Nat.le_of_ble_eq_true rfl), bg647582', (by have qa0 : Int32.toInt 0 = 0 := (by decide); omega), (by first | exact ixP_of (by assumption) (by assumption) (by omega) | exact absurd (show False by omega) not_false)⟩
                  · have r647735 : z647727.toInt = z647728.toInt := gC_eq hc647729
                    have bz647727' : gB z647727 (-128) 127 := ⟨by omega, by omega⟩
                    obtain ⟨z647736, hz647736⟩ : ∃ z : Int32, z = g647715 + Int32.ofInt 1 := ⟨_, rfl⟩
                    have ez647736 : z647736.toInt = g647715.toInt + 1 := gI_inc hz647736 (by decide) bg647715' (by decide) (by decide)
                    have bz647736 : gB z647736 (-2147483644) 33554431 := ⟨by omega, by omega⟩
                    refine G_iinc (L' := [(8, .int z647736), (10, .int g647714), (9, .int z647596), (7, .int g647582), (6, .int z641672), (5, .int z641671), (0, .ref qs641661), (1, .int p641663), (2, .ref q641660), (3, .int p641664), (4, .int 0)]) z647736 2 dr_cJ1_indexOf_5af95_94 rfl hz647736.symm (Nat.le_of_ble_eq_true rfl) rfl ?_
                    have bg647714' : gB g647714 1 16777216 := ⟨by omega, by omega⟩
                    obtain ⟨z647737, hz647737⟩ : ∃ z : Int32, z = g647714 + Int32.ofInt 1 := ⟨_, rfl⟩
                    have ez647737 : z647737.toInt = g647714.toInt + 1 := gI_inc hz647737 (by decide) bg647714' (by decide) (by decide)
                    have bz647737 : gB z647737 2 16777217 := ⟨by omega, by omega⟩
                    refine G_iinc (L' := [(10, .int z647737), (8, .int z647736), (9, .int z647596), (7, .int g647582), (6, .int z641672), (5, .int z641671), (0, .ref qs641661), (1, .int p641663), (2, .ref q641660), (3, .int p641664), (4, .int 0)]) z647737 1 dr_cJ1_indexOf_5af95_97 rfl hz647737.symm (Nat.le_of_ble_eq_true rfl) rfl ?_
                    refine G_goto 76 dr_cJ1_indexOf_5af95_100 (by decide +kernel) ?_
                    refine G_lv (L' := [(10, .int z647737), (9, .int z647596), (8, .int z647736), (7, .int g647582), (6, .int z641672), (5, .int z641671), (0, .ref qs641661), (1, .int p641663), (2, .ref q641660), (3, .int p641664), (4, .int 0)]) [0, 2, 1, 3, 4, 5, 6, 7, 8, 9, 10] rfl ?_
                    exact ih76_647719 z647737 z647736 (gB_w bz647737 (by decide) (by decide)) (gB_w bz647736 (by decide) (by decide)) (by have qa0 : Int32.toInt 0 = 0 := (by decide); omega) (by have qa0 : Int32.toInt 0 = 0 := (by decide); omega) (by have qa0 : Int32.toInt 0 = 0 := (by decide); omega) (by have qa0 : Int32.toInt 0 = 0 := (by decide); omega) (by have qa0 : Int32.toInt 0 = 0 := (by decide); omega)
            exact hlp76_647719 (((z647596.toInt : Int) + 2 - z647594.toInt).toNat + 1) 1 z647594 (gB_w (gBl (show Int32.toInt 1 = 1 by decide)) (by decide) (by decide)) (gB_w bz647594 (by decide) (by decide)) (by have qa0 : Int32.toInt 0 = 0 := (by decide); have qa1 : Int32.toInt 1 = 1 := (by decide); omega) (by have qa0 : Int32.toInt 0 = 0 := (by decide); have qa1 : Int32.toInt 1 = 1 := (by decide); omega) (by have qa0 : Int32.toInt 0 = 0 := (by decide); have qa1 : Int32.toInt 1 = 1 := (by decide); omega) (by have qa0 : Int32.toInt 0 = 0 := (by decide); have qa1 : Int32.toInt 1 = 1 := (by decide); omega) (Nat.lt_succ_self _)
        · have r647738 : z647587.toInt ≠ z641671.toInt := gC_ne hc647588
          have hlp30_648350 : ∀ (n30_648350 : Nat) (g648348 : Int32), gB g648348 (-2147483646) 16777215 → 0 ≤ g648348.toInt → g647582.toInt ≤ g648348.toInt → ((z641672.toInt : Int) + 2 - g648348.toInt).toNat < n30_648350 → G (gV D I) l (gRm 0 0 0 0) (gMA (gV D I) (pp_641670_StringLatin1_indexOf D I P641658 F641659 q641660 qs641661 bs641662 p641663 p641664 f641665 n641666) gNA 0 0) ky_641670_StringLatin1_indexOf 30 [(7, .int g648348), (6, .int z641672), (5, .int z641671), (0, .ref qs641661), (1, .int p641663), (2, .ref q641660), (3, .int p641664), (4, .int 0)] [] (va_pl P641658 F641659) 0 0 := by
            intro n30_648350
            induction n30_648350 with
            | zero => intro g648348 bg648348 x648349 x648350 hm30_648350; exact absurd hm30_648350 (Nat.not_lt_zero _)
            | succ n30_648350 ih30_648350 =>
              intro g648348 bg648348 x648349 x648350 hm30_648350
              obtain ⟨z648351, hz648351⟩ : ∃ z : Int32, z = g648348 + Int32.ofInt 1 := ⟨_, rfl⟩
              have ez648351 : z648351.toInt = g648348.toInt + 1 := gI_inc hz648351 (by decide) bg648348 (by decide) (by decide)
              have bz648351 : gB z648351 (-2147483645) 16777216 := ⟨by omega, by omega⟩
              refine G_iinc (L' := [(7, .int z648351), (6, .int z641672), (5, .int z641671), (0, .ref qs641661), (1, .int p641663), (2, .ref q641660), (3, .int p641664), (4, .int 0)]) z648351 0 dr_cJ1_indexOf_5af95_30 rfl hz648351.symm (Nat.le_of_ble_eq_true rfl) rfl ?_
              refine G_iload 0 dr_cJ1_indexOf_5af95_33 rfl ?_
              refine G_iload 1 dr_cJ1_indexOf_5af95_35 rfl ?_
              refine G_icmp_gt 52 dr_cJ1_indexOf_5af95_37 (by decide +kernel) (fun hc648352 => ?_) (fun hc648352 => ?_)
              · have r648353 : z641672.toInt < z648351.toInt := gC_lt hc648352
                have bz648351' : gB z648351 (-16777215) 16777216 := ⟨by omega, by omega⟩
                refine G_iload 0 dr_cJ1_indexOf_5af95_52 rfl ?_
                refine G_iload 1 dr_cJ1_indexOf_5af95_54 rfl ?_
                refine G_icmp_gt 113 dr_cJ1_indexOf_5af95_56 (by decide +kernel) (fun hc648354 => ?_) (fun hc648354 => ?_)
                · have r648355 : z641672.toInt < z648351.toInt := gC_lt hc648354
                  obtain ⟨z648356, hz648356⟩ : ∃ z : Int32, z = z648351 + Int32.ofInt 1 := ⟨_, rfl⟩
                  have ez648356 : z648356.toInt = z648351.toInt + 1 := gI_inc hz648356 (by decide) bz648351' (by decide) (by decide)
                  have bz648356 : gB z648356 (-16777214) 16777217 := ⟨by omega, by omega⟩
                  refine G_iinc (L' := [(7, .int z648356), (6, .int z641672), (5, .int z641671), (0, .ref qs641661), (1, .int p641663), (2, .ref q641660), (3, .int p641664), (4, .int 0)]) z648356 0 dr_cJ1_indexOf_5af95_113 rfl hz648356.symm (Nat.le_of_ble_eq_true rfl) rfl ?_
                  refine G_goto 14 dr_cJ1_indexOf_5af95_116 (by decide +kernel) ?_
                  exact ih14_647583 z648356 (gB_w bz648356 (by decide) (by decide)) (by have qa0 : Int32.toInt 0 = 0 := (by decide); omega) (by have qa0 : Int32.toInt 0 = 0 := (by decide); omega)
                · have r648357 : z648351.toInt ≤ z641672.toInt := gC_nlt hc648354
                  have bz648351'' : gB z648351 (-16777215) 16777215 := ⟨by omega, by omega⟩
                  have bz641672' : gB z641672 (-16777215) 16777215 := ⟨by omega, by omega⟩
                  refine G_iload 0 dr_cJ1_indexOf_5af95_59 rfl ?_
                  refine G_iconst 1 dr_cJ1_indexOf_5af95_61 (by decide +kernel) ?_
                  refine G_iadd dr_cJ1_indexOf_5af95_62 (G_nam fun z648358 hz648358 => ?_)
                  have ez648358 : z648358.toInt = z648351.toInt + 1 := by rw [gI_add hz648358 bz648351'' (gBl (show Int32.toInt 1 = 1 by decide)) (by decide) (by decide), show Int32.toInt 1 = 1 from by decide]
                  have bz648358 : gB z648358 (-16777214) 16777216 := gB_add (gI_add hz648358 bz648351'' (gBl (show Int32.toInt 1 = 1 by decide)) (by decide) (by decide)) bz648351'' (gBl (show Int32.toInt 1 = 1 by decide)) (by decide) (by decide)
                  refine G_istore (L' := [(8, .int z648358), (7, .int z648351), (6, .int z641672), (5, .int z641671), (0, .ref qs641661), (1, .int p641663), (2, .ref q641660), (3, .int p641664), (4, .int 0)]) dr_cJ1_indexOf_5af95_63 (Nat.le_of_ble_eq_true rfl) rfl ?_
                  refine G_iload 0 dr_cJ1_indexOf_5af95_65 rfl ?_
                  refine G_iload_n 7 dr_cJ1_indexOf_5af95_67 rfl ?_
                  refine G_iadd dr_cJ1_indexOf_5af95_68 (G_nam fun z648359 hz648359 => ?_)
                  have ez648359 : z648359.toInt = z648358.toInt + p641664.toInt := by rw [gI_add hz648359 bz648358 bp641664 (by decide) (by decide)]
                  have bz648359 : gB z648359 (-16777213) 33554432 := gB_add (gI_add hz648359 bz648358 bp641664 (by decide) (by decide)) bz648358 bp641664 (by decide) (by decide)
                  refine G_iconst 1 dr_cJ1_indexOf_5af95_69 (by decide +kernel) ?_
                  refine G_isub dr_cJ1_indexOf_5af95_70 (G_nam fun z648360 hz648360 => ?_)
                  have ez648360 : z648360.toInt = z648359.toInt - 1 := by rw [gI_sub hz648360 bz648359 (gBl (show Int32.toInt 1 = 1 by decide)) (by decide) (by decide), show Int32.toInt 1 = 1 from by decide]
                  have bz648360 : gB z648360 (-16777214) 33554431 := gB_sub (gI_sub hz648360 bz648359 (gBl (show Int32.toInt 1 = 1 by decide)) (by decide) (by decide)) bz648359 (gBl (show Int32.toInt 1 = 1 by decide)) (by decide) (by decide)
                  refine G_istore (L' := [(9, .int z648360), (8, .int z648358), (7, .int z648351), (6, .int z641672), (5, .int z641671), (0, .ref qs641661), (1, .int p641663), (2, .ref q641660), (3, .int p641664), (4, .int 0)]) dr_cJ1_indexOf_5af95_71 (Nat.le_of_ble_eq_true rfl) rfl ?_
                  refine G_iconst 1 dr_cJ1_indexOf_5af95_73 (by decide +kernel) ?_
                  refine G_istore (L' := [(10, .int 1), (9, .int z648360), (8, .int z648358), (7, .int z648351), (6, .int z641672), (5, .int z641671), (0, .ref qs641661), (1, .int p641663), (2, .ref q641660), (3, .int p641664), (4, .int 0)]) dr_cJ1_indexOf_5af95_74 (Nat.le_of_ble_eq_true rfl) rfl ?_
                  have hlp76_648483 : ∀ (n76_648483 : Nat) (g648478 : Int32) (g648479 : Int32), gB g648478 1 16777217 → gB g648479 (-16777214) 33554431 → 0 ≤ g648479.toInt → g648478.toInt = g648479.toInt - z648351.toInt → 1 ≤ g648478.toInt → g648479.toInt ≤ z648360.toInt → ((z648360.toInt : Int) + 2 - g648479.toInt).toNat < n76_648483 → G (gV D I) l (gRm 0 0 0 0) (gMA (gV D I) (pp_641670_StringLatin1_indexOf D I P641658 F641659 q641660 qs641661 bs641662 p641663 p641664 f641665 n641666) gNA 0 0) ky_641670_StringLatin1_indexOf 76 [(10, .int g648478), (9, .int z648360), (8, .int g648479), (7, .int z648351), (6, .int z641672), (5, .int z641671), (0, .ref qs641661), (1, .int p641663), (2, .ref q641660), (3, .int p641664), (4, .int 0)] [] (va_pl P641658 F641659) 0 0 := by
                    intro n76_648483
                    induction n76_648483 with
                    | zero => intro g648478 g648479 bg648478 bg648479 x648480 x648481 x648482 x648483 hm76_648483; exact absurd hm76_648483 (Nat.not_lt_zero _)
                    | succ n76_648483 ih76_648483 =>
                      intro g648478 g648479 bg648478 bg648479 x648480 x648481 x648482 x648483 hm76_648483
                      refine G_iload 2 dr_cJ1_indexOf_5af95_76 rfl ?_
                      refine G_iload 1 dr_cJ1_indexOf_5af95_78 rfl ?_
                      refine G_icmp_ge 103 dr_cJ1_indexOf_5af95_80 (by decide +kernel) (fun hc648484 => ?_) (fun hc648484 => ?_)
                      · have r648485 : z648360.toInt ≤ g648479.toInt := gC_le hc648484
                        refine G_iload 2 dr_cJ1_indexOf_5af95_103 rfl ?_
                        refine G_iload 1 dr_cJ1_indexOf_5af95_105 rfl ?_
                        refine G_icmp_ne 113 dr_cJ1_indexOf_5af95_107 (by decide +kernel) (fun hc648486 => ?_) (fun hc648486 => ?_)
                        · have r648487 : g648479.toInt ≠ z648360.toInt := gC_ne hc648486
                          obtain ⟨z648488, hz648488⟩ : ∃ z : Int32, z = z648351 + Int32.ofInt 1 := ⟨_, rfl⟩
                          have ez648488 : z648488.toInt = z648351.toInt + 1 := gI_inc hz648488 (by decide) bz648351'' (by decide) (by decide)
                          have bz648488 : gB z648488 (-16777214) 16777216 := ⟨by omega, by omega⟩
                          refine G_iinc (L' := [(7, .int z648488), (10, .int g648478), (9, .int z648360), (8, .int g648479), (6, .int z641672), (5, .int z641671), (0, .ref qs641661), (1, .int p641663), (2, .ref q641660), (3, .int p641664), (4, .int 0)]) z648488 3 dr_cJ1_indexOf_5af95_113 rfl hz648488.symm (Nat.le_of_ble_eq_true rfl) rfl ?_
                          refine G_goto 14 dr_cJ1_indexOf_5af95_116 (by decide +kernel) ?_
                          refine G_lv (L' := [(7, .int z648488), (6, .int z641672), (5, .int z641671), (0, .ref qs641661), (1, .int p641663), (2, .ref q641660), (3, .int p641664), (4, .int 0)]) [0, 4, 5, 6, 7, 8, 9, 10] rfl ?_
                          exact ih14_647583 z648488 (gB_w bz648488 (by decide) (by decide)) (by have qa0 : Int32.toInt 0 = 0 := (by decide); omega) (by have qa0 : Int32.toInt 0 = 0 := (by decide); omega)
                        · have r648489 : g648479.toInt = z648360.toInt := gC_eq hc648486
                          refine G_iload 3 dr_cJ1_indexOf_5af95_110 rfl ?_
                          exact G_iretA dr_cJ1_indexOf_5af95_112 rfl (Nat.le_of_ble_eq_true rfl) (Nat.le_of_ble_eq_true rfl) ⟨z648351, rfl, rfl, (Nat.le_of_ble_eq_true rfl), (Nat.le_of_ble_eq_true rfl), (gB_w bz648351'' (by decide) (by decide)), (by have qa0 : Int32.toInt 0 = 0 := (by decide); omega), (by first | exact ixP_of (by assumption) (by assumption) (by omega) | exact absurd (show False by omega) not_false)⟩
                      · have r648490 : g648479.toInt < z648360.toInt := gC_nle hc648484
                        have bg648479' : gB g648479 (-16777214) 33554430 := ⟨by omega, by omega⟩
                        have bz648360' : gB z648360 (-16777213) 33554431 := ⟨by omega, by omega⟩
                        refine G_aload_n 6 dr_cJ1_indexOf_5af95_83 rfl ?_
                        refine G_iload 2 dr_cJ1_indexOf_5af95_84 rfl ?_
                        refine G_kbald (f := fun j => bs641662.getD j 0) dr_cJ1_indexOf_5af95_86 hbs641662 (gB_inr (by omega) (by omega)) (G_nam fun z648491 hz648491 => ?_)
                        have bz648491 : gB z648491 (-2147483648) 2147483647 := gB_any z648491
                        refine G_aload_n 8 dr_cJ1_indexOf_5af95_87 rfl ?_
                        refine G_iload 0 dr_cJ1_indexOf_5af95_88 rfl ?_
                        refine Gp_bald 1 hmq641660 heq641660 dr_cJ1_indexOf_5af95_90 rfl (gB_inr (by omega) (by omega)) (G_nam fun z648492 hz648492 => ?_)
                        have bz648492 : gB z648492 (-128) 127 := by rw [hz648492]; exact bf641665 _
                        refine G_icmp_ne 103 dr_cJ1_indexOf_5af95_91 (by decide +kernel) (fun hc648493 => ?_) (fun hc648493 => ?_)
                        · have r648494 : z648491.toInt ≠ z648492.toInt := gC_ne hc648493
                          refine G_iload 2 dr_cJ1_indexOf_5af95_103 rfl ?_
                          refine G_iload 1 dr_cJ1_indexOf_5af95_105 rfl ?_
                          refine G_icmp_ne 113 dr_cJ1_indexOf_5af95_107 (by decide +kernel) (fun hc648495 => ?_) (fun hc648495 => ?_)
                          · have r648496 : g648479.toInt ≠ z648360.toInt := gC_ne hc648495
                            obtain ⟨z648497, hz648497⟩ : ∃ z : Int32, z = z648351 + Int32.ofInt 1 := ⟨_, rfl⟩
                            have ez648497 : z648497.toInt = z648351.toInt + 1 := gI_inc hz648497 (by decide) bz648351'' (by decide) (by decide)
                            have bz648497 : gB z648497 (-16777214) 16777216 := ⟨by omega, by omega⟩
                            refine G_iinc (L' := [(7, .int z648497), (10, .int g648478), (9, .int z648360), (8, .int g648479), (6, .int z641672), (5, .int z641671), (0, .ref qs641661), (1, .int p641663), (2, .ref q641660), (3, .int p641664), (4, .int 0)]) z648497 3 dr_cJ1_indexOf_5af95_113 rfl hz648497.symm (Nat.le_of_ble_eq_true rfl) rfl ?_
                            refine G_goto 14 dr_cJ1_indexOf_5af95_116 (by decide +kernel) ?_
                            refine G_lv (L' := [(7, .int z648497), (6, .int z641672), (5, .int z641671), (0, .ref qs641661), (1, .int p641663), (2, .ref q641660), (3, .int p641664), (4, .int 0)]) [0, 4, 5, 6, 7, 8, 9, 10] rfl ?_
                            exact ih14_647583 z648497 (gB_w bz648497 (by decide) (by decide)) (by have qa0 : Int32.toInt 0 = 0 := (by decide); omega) (by have qa0 : Int32.toInt 0 = 0 := (by decide); omega)
                          · have r648498 : g648479.toInt = z648360.toInt := gC_eq hc648495
                            have bg648479'' : gB g648479 (-16777213) 33554430 := ⟨by omega, by omega⟩
                            have bz648360'' : gB z648360 (-16777213) 33554430 := ⟨by omega, by omega⟩
                            refine G_iload 3 dr_cJ1_indexOf_5af95_110 rfl ?_
                            exact G_iretA dr_cJ1_indexOf_5af95_112 rfl (Nat.le_of_ble_eq_true rfl) (Nat.le_of_ble_eq_true rfl) ⟨z648351, rfl, rfl, (Nat.le_of_ble_eq_true rfl), (Nat.le_of_ble_eq_true rfl), (gB_w bz648351'' (by decide) (by decide)), (by have qa0 : Int32.toInt 0 = 0 := (by decide); omega), (by first | exact ixP_of (by assumption) (by assumption) (by omega) | exact absurd (show False by omega) not_false)⟩
                        · have r648499 : z648491.toInt = z648492.toInt := gC_eq hc648493
                          have bz648491' : gB z648491 (-128) 127 := ⟨by omega, by omega⟩
                          obtain ⟨z648500, hz648500⟩ : ∃ z : Int32, z = g648479 + Int32.ofInt 1 := ⟨_, rfl⟩
                          have ez648500 : z648500.toInt = g648479.toInt + 1 := gI_inc hz648500 (by decide) bg648479' (by decide) (by decide)
                          have bz648500 : gB z648500 (-16777213) 33554431 := ⟨by omega, by omega⟩
                          refine G_iinc (L' := [(8, .int z648500), (10, .int g648478), (9, .int z648360), (7, .int z648351), (6, .int z641672), (5, .int z641671), (0, .ref qs641661), (1, .int p641663), (2, .ref q641660), (3, .int p641664), (4, .int 0)]) z648500 2 dr_cJ1_indexOf_5af95_94 rfl hz648500.symm (Nat.le_of_ble_eq_true rfl) rfl ?_
                          have bg648478' : gB g648478 1 16777216 := ⟨by omega, by omega⟩
                          obtain ⟨z648501, hz648501⟩ : ∃ z : Int32, z = g648478 + Int32.ofInt 1 := ⟨_, rfl⟩
                          have ez648501 : z648501.toInt = g648478.toInt + 1 := gI_inc hz648501 (by decide) bg648478' (by decide) (by decide)
                          have bz648501 : gB z648501 2 16777217 := ⟨by omega, by omega⟩
                          refine G_iinc (L' := [(10, .int z648501), (8, .int z648500), (9, .int z648360), (7, .int z648351), (6, .int z641672), (5, .int z641671), (0, .ref qs641661), (1, .int p641663), (2, .ref q641660), (3, .int p641664), (4, .int 0)]) z648501 1 dr_cJ1_indexOf_5af95_97 rfl hz648501.symm (Nat.le_of_ble_eq_true rfl) rfl ?_
                          refine G_goto 76 dr_cJ1_indexOf_5af95_100 (by decide +kernel) ?_
                          refine G_lv (L' := [(10, .int z648501), (9, .int z648360), (8, .int z648500), (7, .int z648351), (6, .int z641672), (5, .int z641671), (0, .ref qs641661), (1, .int p641663), (2, .ref q641660), (3, .int p641664), (4, .int 0)]) [0, 2, 1, 3, 4, 5, 6, 7, 8, 9, 10] rfl ?_
                          exact ih76_648483 z648501 z648500 (gB_w bz648501 (by decide) (by decide)) (gB_w bz648500 (by decide) (by decide)) (by have qa0 : Int32.toInt 0 = 0 := (by decide); omega) (by have qa0 : Int32.toInt 0 = 0 := (by decide); omega) (by have qa0 : Int32.toInt 0 = 0 := (by decide); omega) (by have qa0 : Int32.toInt 0 = 0 := (by decide); omega) (by have qa0 : Int32.toInt 0 = 0 := (by decide); omega)
                  exact hlp76_648483 (((z648360.toInt : Int) + 2 - z648358.toInt).toNat + 1) 1 z648358 (gB_w (gBl (show Int32.toInt 1 = 1 by decide)) (by decide) (by decide)) (gB_w bz648358 (by decide) (by decide)) (by have qa0 : Int32.toInt 0 = 0 := (by decide); have qa1 : Int32.toInt 1 = 1 := (by decide); omega) (by have qa0 : Int32.toInt 0 = 0 := (by decide); have qa1 : Int32.toInt 1 = 1 := (by decide); omega) (by have qa0 : Int32.toInt 0 = 0 := (by decide); have qa1 : Int32.toInt 1 = 1 := (by decide); omega) (by have qa0 : Int32.toInt 0 = 0 := (by decide); have qa1 : Int32.toInt 1 = 1 := (by decide); omega) (Nat.lt_succ_self _)
              · have r648502 : z648351.toInt ≤ z641672.toInt := gC_nlt hc648352
                have bz648351' : gB z648351 (-2147483645) 16777215 := ⟨by omega, by omega⟩
                refine G_aload_n 3 dr_cJ1_indexOf_5af95_40 rfl ?_
                refine G_iload 0 dr_cJ1_indexOf_5af95_41 rfl ?_
                refine G_kbald (f := fun j => bs641662.getD j 0) dr_cJ1_indexOf_5af95_43 hbs641662 (gB_inr (by omega) (by omega)) (G_nam fun z648503 hz648503 => ?_)
                have bz648503 : gB z648503 (-2147483648) 2147483647 := gB_any z648503
                refine G_iload 2 dr_cJ1_indexOf_5af95_44 rfl ?_
                refine G_icmp_eq 52 dr_cJ1_indexOf_5af95_46 (by decide +kernel) (fun hc648504 => ?_) (fun hc648504 => ?_)
                · have r648505 : z648503.toInt = z641671.toInt := gC_eq hc648504
                  have bz648503' : gB z648503 (-128) 127 := ⟨by omega, by omega⟩
                  refine G_iload 0 dr_cJ1_indexOf_5af95_52 rfl ?_
                  refine G_iload 1 dr_cJ1_indexOf_5af95_54 rfl ?_
                  refine G_icmp_gt 113 dr_cJ1_indexOf_5af95_56 (by decide +kernel) (fun hc648506 => ?_) (fun hc648506 => ?_)
                  · have r648507 : z641672.toInt < z648351.toInt := gC_lt hc648506
                    have bz641672' : gB z641672 (-16777216) 16777214 := ⟨by omega, by omega⟩
                    have bz648351'' : gB z648351 (-16777215) 16777215 := ⟨by omega, by omega⟩
                    obtain ⟨z648508, hz648508⟩ : ∃ z : Int32, z = z648351 + Int32.ofInt 1 := ⟨_, rfl⟩
                    have ez648508 : z648508.toInt = z648351.toInt + 1 := gI_inc hz648508 (by decide) bz648351'' (by decide) (by decide)
                    have bz648508 : gB z648508 (-16777214) 16777216 := ⟨by omega, by omega⟩
                    refine G_iinc (L' := [(7, .int z648508), (6, .int z641672), (5, .int z641671), (0, .ref qs641661), (1, .int p641663), (2, .ref q641660), (3, .int p641664), (4, .int 0)]) z648508 0 dr_cJ1_indexOf_5af95_113 rfl hz648508.symm (Nat.le_of_ble_eq_true rfl) rfl ?_
                    refine G_goto 14 dr_cJ1_indexOf_5af95_116 (by decide +kernel) ?_
                    exact ih14_647583 z648508 (gB_w bz648508 (by decide) (by decide)) (by have qa0 : Int32.toInt 0 = 0 := (by decide); omega) (by have qa0 : Int32.toInt 0 = 0 := (by decide); omega)
                  · have r648509 : z648351.toInt ≤ z641672.toInt := gC_nlt hc648506
                    refine G_iload 0 dr_cJ1_indexOf_5af95_59 rfl ?_
                    refine G_iconst 1 dr_cJ1_indexOf_5af95_61 (by decide +kernel) ?_
                    refine G_iadd dr_cJ1_indexOf_5af95_62 (G_nam fun z648510 hz648510 => ?_)
                    have ez648510 : z648510.toInt = z648351.toInt + 1 := by rw [gI_add hz648510 bz648351' (gBl (show Int32.toInt 1 = 1 by decide)) (by decide) (by decide), show Int32.toInt 1 = 1 from by decide]
                    have bz648510 : gB z648510 (-2147483644) 16777216 := gB_add (gI_add hz648510 bz648351' (gBl (show Int32.toInt 1 = 1 by decide)) (by decide) (by decide)) bz648351' (gBl (show Int32.toInt 1 = 1 by decide)) (by decide) (by decide)
                    refine G_istore (L' := [(8, .int z648510), (7, .int z648351), (6, .int z641672), (5, .int z641671), (0, .ref qs641661), (1, .int p641663), (2, .ref q641660), (3, .int p641664), (4, .int 0)]) dr_cJ1_indexOf_5af95_63 (Nat.le_of_ble_eq_true rfl) rfl ?_
                    refine G_iload 0 dr_cJ1_indexOf_5af95_65 rfl ?_
                    refine G_iload_n 7 dr_cJ1_indexOf_5af95_67 rfl ?_
                    refine G_iadd dr_cJ1_indexOf_5af95_68 (G_nam fun z648511 hz648511 => ?_)
                    have ez648511 : z648511.toInt = z648510.toInt + p641664.toInt := by rw [gI_add hz648511 bz648510 bp641664 (by decide) (by decide)]
                    have bz648511 : gB z648511 (-2147483643) 33554432 := gB_add (gI_add hz648511 bz648510 bp641664 (by decide) (by decide)) bz648510 bp641664 (by decide) (by decide)
                    refine G_iconst 1 dr_cJ1_indexOf_5af95_69 (by decide +kernel) ?_
                    refine G_isub dr_cJ1_indexOf_5af95_70 (G_nam fun z648512 hz648512 => ?_)
                    have ez648512 : z648512.toInt = z648511.toInt - 1 := by rw [gI_sub hz648512 bz648511 (gBl (show Int32.toInt 1 = 1 by decide)) (by decide) (by decide), show Int32.toInt 1 = 1 from by decide]
                    have bz648512 : gB z648512 (-2147483644) 33554431 := gB_sub (gI_sub hz648512 bz648511 (gBl (show Int32.toInt 1 = 1 by decide)) (by decide) (by decide)) bz648511 (gBl (show Int32.toInt 1 = 1 by decide)) (by decide) (by decide)
                    refine G_istore (L' := [(9, .int z648512), (8, .int z648510), (7, .int z648351), (6, .int z641672), (5, .int z641671), (0, .ref qs641661), (1, .int p641663), (2, .ref q641660), (3, .int p641664), (4, .int 0)]) dr_cJ1_indexOf_5af95_71 (Nat.le_of_ble_eq_true rfl) rfl ?_
                    refine G_iconst 1 dr_cJ1_indexOf_5af95_73 (by decide +kernel) ?_
                    refine G_istore (L' := [(10, .int 1), (9, .int z648512), (8, .int z648510), (7, .int z648351), (6, .int z641672), (5, .int z641671), (0, .ref qs641661), (1, .int p641663), (2, .ref q641660), (3, .int p641664), (4, .int 0)]) dr_cJ1_indexOf_5af95_74 (Nat.le_of_ble_eq_true rfl) rfl ?_
                    have hlp76_648635 : ∀ (n76_648635 : Nat) (g648630 : Int32) (g648631 : Int32), gB g648630 1 16777217 → gB g648631 (-2147483644) 33554431 → 0 ≤ g648631.toInt → g648630.toInt = g648631.toInt - z648351.toInt → 1 ≤ g648630.toInt → g648631.toInt ≤ z648512.toInt → ((z648512.toInt : Int) + 2 - g648631.toInt).toNat < n76_648635 → G (gV D I) l (gRm 0 0 0 0) (gMA (gV D I) (pp_641670_StringLatin1_indexOf D I P641658 F641659 q641660 qs641661 bs641662 p641663 p641664 f641665 n641666) gNA 0 0) ky_641670_StringLatin1_indexOf 76 [(10, .int g648630), (9, .int z648512), (8, .int g648631), (7, .int z648351), (6, .int z641672), (5, .int z641671), (0, .ref qs641661), (1, .int p641663), (2, .ref q641660), (3, .int p641664), (4, .int 0)] [] (va_pl P641658 F641659) 0 0 := by
                      intro n76_648635
                      induction n76_648635 with
                      | zero => intro g648630 g648631 bg648630 bg648631 x648632 x648633 x648634 x648635 hm76_648635; exact absurd hm76_648635 (Nat.not_lt_zero _)
                      | succ n76_648635 ih76_648635 =>
                        intro g648630 g648631 bg648630 bg648631 x648632 x648633 x648634 x648635 hm76_648635
                        refine G_iload 2 dr_cJ1_indexOf_5af95_76 rfl ?_
                        refine G_iload 1 dr_cJ1_indexOf_5af95_78 rfl ?_
                        refine G_icmp_ge 103 dr_cJ1_indexOf_5af95_80 (by decide +kernel) (fun hc648636 => ?_) (fun hc648636 => ?_)
                        · have r648637 : z648512.toInt ≤ g648631.toInt := gC_le hc648636
                          refine G_iload 2 dr_cJ1_indexOf_5af95_103 rfl ?_
                          refine G_iload 1 dr_cJ1_indexOf_5af95_105 rfl ?_
                          refine G_icmp_ne 113 dr_cJ1_indexOf_5af95_107 (by decide +kernel) (fun hc648638 => ?_) (fun hc648638 => ?_)
                          · have r648639 : g648631.toInt ≠ z648512.toInt := gC_ne hc648638
                            obtain ⟨z648640, hz648640⟩ : ∃ z : Int32, z = z648351 + Int32.ofInt 1 := ⟨_, rfl⟩
                            have ez648640 : z648640.toInt = z648351.toInt + 1 := gI_inc hz648640 (by decide) bz648351' (by decide) (by decide)
                            have bz648640 : gB z648640 (-2147483644) 16777216 := ⟨by omega, by omega⟩
                            refine G_iinc (L' := [(7, .int z648640), (10, .int g648630), (9, .int z648512), (8, .int g648631), (6, .int z641672), (5, .int z641671), (0, .ref qs641661), (1, .int p641663), (2, .ref q641660), (3, .int p641664), (4, .int 0)]) z648640 3 dr_cJ1_indexOf_5af95_113 rfl hz648640.symm (Nat.le_of_ble_eq_true rfl) rfl ?_
                            refine G_goto 14 dr_cJ1_indexOf_5af95_116 (by decide +kernel) ?_
                            refine G_lv (L' := [(7, .int z648640), (6, .int z641672), (5, .int z641671), (0, .ref qs641661), (1, .int p641663), (2, .ref q641660), (3, .int p641664), (4, .int 0)]) [0, 4, 5, 6, 7, 8, 9, 10] rfl ?_
                            exact ih14_647583 z648640 (gB_w bz648640 (by decide) (by decide)) (by have qa0 : Int32.toInt 0 = 0 := (by decide); omega) (by have qa0 : Int32.toInt 0 = 0 := (by decide); omega)
                          · have r648641 : g648631.toInt = z648512.toInt := gC_eq hc648638
                            refine G_iload 3 dr_cJ1_indexOf_5af95_110 rfl ?_
                            exact G_iretA dr_cJ1_indexOf_5af95_112 rfl (Nat.le_of_ble_eq_true rfl) (Nat.le_of_ble_eq_true rfl) ⟨z648351, rfl, rfl, (Nat.le_of_ble_eq_true rfl), (Nat.le_of_ble_eq_true rfl), (gB_w bz648351' (by decide) (by decide)), (by have qa0 : Int32.toInt 0 = 0 := (by decide); omega), (by first | exact ixP_of (by assumption) (by assumption) (by omega) | exact absurd (show False by omega) not_false)⟩
                        · have r648642 : g648631.toInt < z648512.toInt := gC_nle hc648636
                          have bg648631' : gB g648631 (-2147483644) 33554430 := ⟨by omega, by omega⟩
                          have bz648512' : gB z648512 (-2147483643) 33554431 := ⟨by omega, by omega⟩
                          refine G_aload_n 6 dr_cJ1_indexOf_5af95_83 rfl ?_
                          refine G_iload 2 dr_cJ1_indexOf_5af95_84 rfl ?_
                          refine G_kbald (f := fun j => bs641662.getD j 0) dr_cJ1_indexOf_5af95_86 hbs641662 (gB_inr (by omega) (by omega)) (G_nam fun z648643 hz648643 => ?_)
                          have bz648643 : gB z648643 (-2147483648) 2147483647 := gB_any z648643
                          refine G_aload_n 8 dr_cJ1_indexOf_5af95_87 rfl ?_
                          refine G_iload 0 dr_cJ1_indexOf_5af95_88 rfl ?_
                          refine Gp_bald 1 hmq641660 heq641660 dr_cJ1_indexOf_5af95_90 rfl (gB_inr (by omega) (by omega)) (G_nam fun z648644 hz648644 => ?_)
                          have bz648644 : gB z648644 (-128) 127 := by rw [hz648644]; exact bf641665 _
                          refine G_icmp_ne 103 dr_cJ1_indexOf_5af95_91 (by decide +kernel) (fun hc648645 => ?_) (fun hc648645 => ?_)
                          · have r648646 : z648643.toInt ≠ z648644.toInt := gC_ne hc648645
                            refine G_iload 2 dr_cJ1_indexOf_5af95_103 rfl ?_
                            refine G_iload 1 dr_cJ1_indexOf_5af95_105 rfl ?_
                            refine G_icmp_ne 113 dr_cJ1_indexOf_5af95_107 (by decide +kernel) (fun hc648647 => ?_) (fun hc648647 => ?_)
                            · have r648648 : g648631.toInt ≠ z648512.toInt := gC_ne hc648647
                              obtain ⟨z648649, hz648649⟩ : ∃ z : Int32, z = z648351 + Int32.ofInt 1 := ⟨_, rfl⟩
                              have ez648649 : z648649.toInt = z648351.toInt + 1 := gI_inc hz648649 (by decide) bz648351' (by decide) (by decide)
                              have bz648649 : gB z648649 (-2147483644) 16777216 := ⟨by omega, by omega⟩
                              refine G_iinc (L' := [(7, .int z648649), (10, .int g648630), (9, .int z648512), (8, .int g648631), (6, .int z641672), (5, .int z641671), (0, .ref qs641661), (1, .int p641663), (2, .ref q641660), (3, .int p641664), (4, .int 0)]) z648649 3 dr_cJ1_indexOf_5af95_113 rfl hz648649.symm (Nat.le_of_ble_eq_true rfl) rfl ?_
                              refine G_goto 14 dr_cJ1_indexOf_5af95_116 (by decide +kernel) ?_
                              refine G_lv (L' := [(7, .int z648649), (6, .int z641672), (5, .int z641671), (0, .ref qs641661), (1, .int p641663), (2, .ref q641660), (3, .int p641664), (4, .int 0)]) [0, 4, 5, 6, 7, 8, 9, 10] rfl ?_
                              exact ih14_647583 z648649 (gB_w bz648649 (by decide) (by decide)) (by have qa0 : Int32.toInt 0 = 0 := (by decide); omega) (by have qa0 : Int32.toInt 0 = 0 := (by decide); omega)
                            · have r648650 : g648631.toInt = z648512.toInt := gC_eq hc648647
                              have bg648631'' : gB g648631 (-2147483643) 33554430 := ⟨by omega, by omega⟩
                              have bz648512'' : gB z648512 (-2147483643) 33554430 := ⟨by omega, by omega⟩
                              refine G_iload 3 dr_cJ1_indexOf_5af95_110 rfl ?_
                              exact G_iretA dr_cJ1_indexOf_5af95_112 rfl (Nat.le_of_ble_eq_true rfl) (Nat.le_of_ble_eq_true rfl) ⟨z648351, rfl, rfl, (Nat.le_of_ble_eq_true rfl), (Nat.le_of_ble_eq_true rfl), (gB_w bz648351' (by decide) (by decide)), (by have qa0 : Int32.toInt 0 = 0 := (by decide); omega), (by first | exact ixP_of (by assumption) (by assumption) (by omega) | exact absurd (show False by omega) not_false)⟩
                          · have r648651 : z648643.toInt = z648644.toInt := gC_eq hc648645
                            have bz648643' : gB z648643 (-128) 127 := ⟨by omega, by omega⟩
                            obtain ⟨z648652, hz648652⟩ : ∃ z : Int32, z = g648631 + Int32.ofInt 1 := ⟨_, rfl⟩
                            have ez648652 : z648652.toInt = g648631.toInt + 1 := gI_inc hz648652 (by decide) bg648631' (by decide) (by decide)
                            have bz648652 : gB z648652 (-2147483643) 33554431 := ⟨by omega, by omega⟩
                            refine G_iinc (L' := [(8, .int z648652), (10, .int g648630), (9, .int z648512), (7, .int z648351), (6, .int z641672), (5, .int z641671), (0, .ref qs641661), (1, .int p641663), (2, .ref q641660), (3, .int p641664), (4, .int 0)]) z648652 2 dr_cJ1_indexOf_5af95_94 rfl hz648652.symm (Nat.le_of_ble_eq_true rfl) rfl ?_
                            have bg648630' : gB g648630 1 16777216 := ⟨by omega, by omega⟩
                            obtain ⟨z648653, hz648653⟩ : ∃ z : Int32, z = g648630 + Int32.ofInt 1 := ⟨_, rfl⟩
                            have ez648653 : z648653.toInt = g648630.toInt + 1 := gI_inc hz648653 (by decide) bg648630' (by decide) (by decide)
                            have bz648653 : gB z648653 2 16777217 := ⟨by omega, by omega⟩
                            refine G_iinc (L' := [(10, .int z648653), (8, .int z648652), (9, .int z648512), (7, .int z648351), (6, .int z641672), (5, .int z641671), (0, .ref qs641661), (1, .int p641663), (2, .ref q641660), (3, .int p641664), (4, .int 0)]) z648653 1 dr_cJ1_indexOf_5af95_97 rfl hz648653.symm (Nat.le_of_ble_eq_true rfl) rfl ?_
                            refine G_goto 76 dr_cJ1_indexOf_5af95_100 (by decide +kernel) ?_
                            refine G_lv (L' := [(10, .int z648653), (9, .int z648512), (8, .int z648652), (7, .int z648351), (6, .int z641672), (5, .int z641671), (0, .ref qs641661), (1, .int p641663), (2, .ref q641660), (3, .int p641664), (4, .int 0)]) [0, 2, 1, 3, 4, 5, 6, 7, 8, 9, 10] rfl ?_
                            exact ih76_648635 z648653 z648652 (gB_w bz648653 (by decide) (by decide)) (gB_w bz648652 (by decide) (by decide)) (by have qa0 : Int32.toInt 0 = 0 := (by decide); omega) (by have qa0 : Int32.toInt 0 = 0 := (by decide); omega) (by have qa0 : Int32.toInt 0 = 0 := (by decide); omega) (by have qa0 : Int32.toInt 0 = 0 := (by decide); omega) (by have qa0 : Int32.toInt 0 = 0 := (by decide); omega)
                    exact hlp76_648635 (((z648512.toInt : Int) + 2 - z648510.toInt).toNat + 1) 1 z648510 (gB_w (gBl (show Int32.toInt 1 = 1 by decide)) (by decide) (by decide)) (gB_w bz648510 (by decide) (by decide)) (by have qa0 : Int32.toInt 0 = 0 := (by decide); have qa1 : Int32.toInt 1 = 1 := (by decide); omega) (by have qa0 : Int32.toInt 0 = 0 := (by decide); have qa1 : Int32.toInt 1 = 1 := (by decide); omega) (by have qa0 : Int32.toInt 0 = 0 := (by decide); have qa1 : Int32.toInt 1 = 1 := (by decide); omega) (by have qa0 : Int32.toInt 0 = 0 := (by decide); have qa1 : Int32.toInt 1 = 1 := (by decide); omega) (Nat.lt_succ_self _)
                · have r648654 : z648503.toInt ≠ z641671.toInt := gC_ne hc648504
                  refine G_goto 30 dr_cJ1_indexOf_5af95_49 (by decide +kernel) ?_
                  exact ih30_648350 z648351 (gB_w bz648351' (by decide) (by decide)) (by have qa0 : Int32.toInt 0 = 0 := (by decide); omega) (by have qa0 : Int32.toInt 0 = 0 := (by decide); omega) (by have qa0 : Int32.toInt 0 = 0 := (by decide); omega)
          exact hlp30_648350 (((z641672.toInt : Int) + 2 - g647582.toInt).toNat + 1) g647582 bg647582' (by have qa0 : Int32.toInt 0 = 0 := (by decide); omega) (by have qa0 : Int32.toInt 0 = 0 := (by decide); omega) (Nat.lt_succ_self _)
  exact hlp14_647583 (((z641672.toInt : Int) + 2 - 0).toNat + 1) 0 (gB_w (gBl (show Int32.toInt 0 = 0 by decide)) (by decide) (by decide)) (by have qa0 : Int32.toInt 0 = 0 := (by decide); omega) (Nat.lt_succ_self _)
abbrev ky_641648_StringLatin1_indexOf : gKey := (cJ1_indexOf_b82b6, 2, "java/lang/StringLatin1", (some FieldType.int), [], "indexOf", fun _ _ => True)
def pp_641648_StringLatin1_indexOf (D : va_G) (I : FieldType → ClassId) (P641639 : List Nat) (F641640 : Nat → va_E) (q641641 : Nat) (qs641642 : Nat) (bs641643 : List Int32) (f641644 : Nat → Int32) (n641645 : Nat) : Option Value → va_W → Nat → Nat → Prop := fun r w dc ds => ∃ (o648665 : Int32), r = some (.int o648665) ∧ w = va_pl P641639 F641640 ∧ dc ≤ 0 ∧ ds ≤ 0 ∧ gB o648665 (-2147483646) 16777215 ∧ (o648665.toInt < 0 ∨ o648665.toInt + (n641645 : Int) ≤ (bs641643.length : Int)) ∧ ixP (fun j => bs641643.getD j 0) f641644 o648665
set_option maxRecDepth 100000 in
set_option maxHeartbeats 4000000 in
theorem cp_641648_StringLatin1_indexOf (l : Launch) (hl0 : l.stackTraces = false) (D : va_G) (I : FieldType → ClassId) (P641639 : List Nat) (F641640 : Nat → va_E) (q641641 : Nat) (qs641642 : Nat) (bs641643 : List Int32) (f641644 : Nat → Int32) (n641645 : Nat) (hmq641641 : q641641 ∈ P641639) (heq641641 : F641640 q641641 = .inl (I .byte, n641645, .inl f641644)) (hbs641643 : ∀ A s H, (gV D I).2.2.2.1 A s H → va_T .byte qs641642 bs641643.length (fun j => .int (bs641643.getD j 0)) A s H) (nbs641643 : (bs641643.length : Int) ≤ 65535) (lbs641643 : gLB bs641643) (bf641644 : gF f641644 (-128) 127) (x641646 : 1 ≤ (n641645 : Int)) (x641647 : ((n641645 : Int) ≤ 16777216)) : CtA (gV D I) l yJ1_indexOf_b82b6 cJ1_indexOf_b82b6 2 (some FieldType.int) 1 30 0 0 [.ref qs641642, .ref q641641] (va_pl P641639 F641640) (pp_641648_StringLatin1_indexOf D I P641639 F641640 q641641 qs641642 bs641643 f641644 n641645) gNA := by
  refine CtA_ofF hl0 (by decide +kernel) (Nat.le_of_ble_eq_true rfl) ?_
  refine G_aload_n 1 dr_cJ1_indexOf_b82b6_0 rfl ?_
  refine Gp_alen (Int32.ofNat n641645) 1 hmq641641 heq641641 dr_cJ1_indexOf_b82b6_1 rfl rfl (G_nam fun z641649 hz641649 => ?_)
  have ez641649 : z641649.toInt = (n641645 : Nat) := gI_ofM hz641649 (by omega)
  have bz641649 : gB z641649 0 16777216 := ⟨by omega, by omega⟩
  refine G_if_ne 7 dr_cJ1_indexOf_b82b6_2 (by decide +kernel) (fun hc641650 => ?_) (fun hc => absurd (show False by have := gj_eq hc (show Int32.toInt 0 = 0 by decide); omega) not_false)
  have r641652 : z641649.toInt ≠ 0 := gj_neq hc641650 (show Int32.toInt 0 = 0 by decide)
  have bz641649' : gB z641649 1 16777216 := ⟨by omega, by omega⟩
  refine G_aload_n 0 dr_cJ1_indexOf_b82b6_7 rfl ?_
  refine G_klen dr_cJ1_indexOf_b82b6_8 hbs641643 (G_nam fun z641653 hz641653 => ?_)
  have ez641653 : z641653.toInt = (bs641643.length : Int) := gI_ofN hz641653 nbs641643
  have bz641653 : gB z641653 0 65535 := ⟨by omega, by omega⟩
  refine G_if_ne 14 dr_cJ1_indexOf_b82b6_9 (by decide +kernel) (fun hc641654 => ?_) (fun hc641654 => ?_)
  · have r641655 : z641653.toInt ≠ 0 := gj_neq hc641654 (show Int32.toInt 0 = 0 by decide)
    have bz641653' : gB z641653 1 65535 := ⟨by omega, by omega⟩
    refine G_aload_n 0 dr_cJ1_indexOf_b82b6_14 rfl ?_
    refine G_aload_n 0 dr_cJ1_indexOf_b82b6_15 rfl ?_
    refine G_klen dr_cJ1_indexOf_b82b6_16 hbs641643 (G_nam fun z641656 hz641656 => ?_)
    have ez641656 : z641656.toInt = (bs641643.length : Int) := gI_ofN hz641656 nbs641643
    have bz641656 : gB z641656 0 65535 := ⟨by omega, by omega⟩
    refine G_aload_n 1 dr_cJ1_indexOf_b82b6_17 rfl ?_
    refine G_aload_n 1 dr_cJ1_indexOf_b82b6_18 rfl ?_
    refine Gp_alen (Int32.ofNat n641645) 1 hmq641641 heq641641 dr_cJ1_indexOf_b82b6_19 rfl rfl (G_nam fun z641657 hz641657 => ?_)
    have ez641657 : z641657.toInt = (n641645 : Nat) := gI_ofM hz641657 (by omega)
    have bz641657 : gB z641657 0 16777216 := ⟨by omega, by omega⟩
    refine G_iconst 0 dr_cJ1_indexOf_b82b6_20 (by decide +kernel) ?_
    refine Gw_callS (As := [.ref qs641642, .int z641656, .ref q641641, .int z641657, .int 0]) (gV_ok D I) (cp_641670_StringLatin1_indexOf l hl0 D I P641639 F641640 q641641 qs641642 bs641643 z641656 z641657 f641644 n641645 hmq641641 heq641641 hbs641643 nbs641643 lbs641643 (gB_w bz641656 (by decide) (by decide)) ⟨by omega, by omega⟩ bf641644 (by omega) (by omega) (by omega)) dr_cJ1_indexOf_b82b6_21 ⟨wr_8_199, wr_1_28, wr_8_201, by decide, rfl, (Nat.le_of_ble_eq_true rfl), (Nat.le_of_ble_eq_true rfl)⟩ wr_8_200 (show 0 + 0 ≤ 0 by first | omega | decide) (show 0 + 0 ≤ 0 by first | omega | decide) (Nat.le_of_ble_eq_true rfl) (fun r648659 w648660 dc648656 ds648657 hp648658 => ?_) (fun _ _ _ _ _ z => z.elim)
    obtain ⟨o648661, rfl, rfl, hdc, hds, bo648661, x648662, x648663⟩ := hp648658
    change G _ _ _ _ _ _ _ (.int o648661 :: _) _ _ _
    refine G_widen (cs' := 0) (sl' := 0) (by omega) (by omega) ?_
    exact G_iretA dr_cJ1_indexOf_b82b6_24 rfl (Nat.le_of_ble_eq_true rfl) (Nat.le_of_ble_eq_true rfl) ⟨o648661, rfl, rfl, (Nat.le_of_ble_eq_true rfl), (Nat.le_of_ble_eq_true rfl), bo648661, (by omega), x648663⟩
  · have r648664 : z641653.toInt = 0 := gj_eq hc641654 (show Int32.toInt 0 = 0 by decide)
    have bz641653' : gB z641653 0 0 := ⟨by omega, by omega⟩
    refine G_iconst (-1) dr_cJ1_indexOf_b82b6_12 (by decide +kernel) ?_
    exact G_iretA dr_cJ1_indexOf_b82b6_13 rfl (Nat.le_of_ble_eq_true rfl) (Nat.le_of_ble_eq_true rfl) ⟨(-1), rfl, rfl, (Nat.le_of_ble_eq_true rfl), (Nat.le_of_ble_eq_true rfl), (gB_w (gBl (show Int32.toInt (-1) = (-1) by decide)) (by decide) (by decide)), (by have qa0 : Int32.toInt (-1) = (-1) := (by decide); omega), (ixP_n (by decide))⟩
