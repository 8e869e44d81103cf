theorem dr_cJ0_isLatin1_aae02_0 : decode cJ0_isLatin1_aae02 0 = .ok (.getstatic 38, 3) := by decide +kernel
theorem dr_cJ0_isLatin1_aae02_3 : decode cJ0_isLatin1_aae02 3 = .ok (.ifCond .eq 14, 3) := by decide +kernel
theorem dr_cJ0_isLatin1_aae02_6 : decode cJ0_isLatin1_aae02 6 = .ok (.aload_n 0, 1) := by decide +kernel
theorem dr_cJ0_isLatin1_aae02_7 : decode cJ0_isLatin1_aae02 7 = .ok (.getfield 15, 3) := by decide +kernel
theorem dr_cJ0_isLatin1_aae02_10 : decode cJ0_isLatin1_aae02 10 = .ok (.ifCond .ne 7, 3) := by decide +kernel
theorem dr_cJ0_isLatin1_aae02_13 : decode cJ0_isLatin1_aae02 13 = .ok (.iconst 1, 1) := by decide +kernel
theorem dr_cJ0_isLatin1_aae02_14 : decode cJ0_isLatin1_aae02 14 = .ok (.goto 4, 3) := by decide +kernel
theorem dr_cJ0_isLatin1_aae02_18 : decode cJ0_isLatin1_aae02 18 = .ok (.ireturn, 1) := by decide +kernel
theorem dr_cJ1_charAt_3b067_0 : decode cJ1_charAt_3b067 0 = .ok (.iload_n 1, 1) := by decide +kernel
theorem dr_cJ1_charAt_3b067_1 : decode cJ1_charAt_3b067 1 = .ok (.aload_n 0, 1) := by decide +kernel
theorem dr_cJ1_charAt_3b067_2 : decode cJ1_charAt_3b067 2 = .ok (.arraylength, 1) := by decide +kernel
theorem dr_cJ1_charAt_3b067_3 : decode cJ1_charAt_3b067 3 = .ok (.invokestatic 9, 3) := by decide +kernel
theorem wr_3_78 : (Jvm.Cond.methodLink "java/lang/StringLatin1" (9 : Nat) ({ cls := "java/lang/String", name := "checkIndex", desc := "(II)V" } : Jvm.MethodName)) ∈ gw := gw_3 78 rfl rfl
theorem dr_cJ1_charAt_3b067_6 : decode cJ1_charAt_3b067 6 = .ok (.aload_n 0, 1) := by decide +kernel
theorem dr_cJ1_charAt_3b067_7 : decode cJ1_charAt_3b067 7 = .ok (.iload_n 1, 1) := by decide +kernel
theorem dr_cJ1_charAt_3b067_8 : decode cJ1_charAt_3b067 8 = .ok (.baload, 1) := by decide +kernel
theorem dr_cJ1_charAt_3b067_9 : decode cJ1_charAt_3b067 9 = .ok (.sipush 255, 3) := by decide +kernel
theorem dr_cJ1_charAt_3b067_12 : decode cJ1_charAt_3b067 12 = .ok (.iand, 1) := by decide +kernel
theorem dr_cJ1_charAt_3b067_13 : decode cJ1_charAt_3b067 13 = .ok (.i2c, 1) := by decide +kernel
theorem dr_cJ1_charAt_3b067_14 : decode cJ1_charAt_3b067 14 = .ok (.ireturn, 1) := by decide +kernel
theorem dr_cJ0_charAt_5068e_0 : decode cJ0_charAt_5068e 0 = .ok (.aload_n 0, 1) := by decide +kernel
theorem dr_cJ0_charAt_5068e_1 : decode cJ0_charAt_5068e 1 = .ok (.invokevirtual 492, 3) := by decide +kernel
theorem wr_3_71 : (Jvm.Cond.methodLink "java/lang/String" (492 : Nat) ({ cls := "java/lang/String", name := "isLatin1", desc := "()Z" } : Jvm.MethodName)) ∈ gw := gw_3 71 rfl rfl
theorem wr_3_74 : (Jvm.Cond.code ({ cls := "java/lang/String", name := "isLatin1", desc := "()Z" } : Jvm.MethodName) prog_34_method_154_code (1 : Nat) (Option.some Jvm.ClassFile.FieldType.boolean)) ∈ gw := gw_3 74 rfl rfl
theorem wr_3_72 : (Jvm.Cond.instanceMethod ({ cls := "java/lang/String", name := "isLatin1", desc := "()Z" } : Jvm.MethodName)) ∈ gw := gw_3 72 rfl rfl
theorem wr_3_73 : (Jvm.Cond.selects "java/lang/String" ({ cls := "java/lang/String", name := "isLatin1", desc := "()Z" } : Jvm.MethodName) ({ cls := "java/lang/String", name := "isLatin1", desc := "()Z" } : Jvm.MethodName)) ∈ gw := gw_3 73 rfl rfl
theorem dr_cJ0_charAt_5068e_4 : decode cJ0_charAt_5068e 4 = .ok (.ifCond .eq 12, 3) := by decide +kernel
theorem dr_cJ0_charAt_5068e_7 : decode cJ0_charAt_5068e 7 = .ok (.aload_n 0, 1) := by decide +kernel
theorem dr_cJ0_charAt_5068e_8 : decode cJ0_charAt_5068e 8 = .ok (.getfield 9, 3) := by decide +kernel
theorem dr_cJ0_charAt_5068e_11 : decode cJ0_charAt_5068e 11 = .ok (.iload_n 1, 1) := by decide +kernel
theorem dr_cJ0_charAt_5068e_12 : decode cJ0_charAt_5068e 12 = .ok (.invokestatic 495, 3) := by decide +kernel
theorem wr_3_75 : (Jvm.Cond.methodLink "java/lang/String" (495 : Nat) ({ cls := "java/lang/StringLatin1", name := "charAt", desc := "([BI)C" } : Jvm.MethodName)) ∈ gw := gw_3 75 rfl rfl
theorem wr_3_77 : (Jvm.Cond.code ({ cls := "java/lang/StringLatin1", name := "charAt", desc := "([BI)C" } : Jvm.MethodName) prog_37_method_2_code (2 : Nat) (Option.some Jvm.ClassFile.FieldType.char)) ∈ gw := gw_3 77 rfl rfl
theorem wr_3_76 : (Jvm.Cond.static ({ cls := "java/lang/StringLatin1", name := "charAt", desc := "([BI)C" } : Jvm.MethodName)) ∈ gw := gw_3 76 rfl rfl
theorem dr_cJ0_charAt_5068e_15 : decode cJ0_charAt_5068e 15 = .ok (.ireturn, 1) := by decide +kernel
theorem dr_cJ1_indexOf_5af95_0 : decode cJ1_indexOf_5af95 0 = .ok (.aload_n 2, 1) := by decide +kernel
theorem dr_cJ1_indexOf_5af95_1 : decode cJ1_indexOf_5af95 1 = .ok (.iconst 0, 1) := by decide +kernel
theorem dr_cJ1_indexOf_5af95_2 : decode cJ1_indexOf_5af95 2 = .ok (.baload, 1) := by decide +kernel
theorem dr_cJ1_indexOf_5af95_3 : decode cJ1_indexOf_5af95 3 = .ok (.istore 5, 2) := by decide +kernel
theorem dr_cJ1_indexOf_5af95_5 : decode cJ1_indexOf_5af95 5 = .ok (.iload_n 1, 1) := by decide +kernel
theorem dr_cJ1_indexOf_5af95_6 : decode cJ1_indexOf_5af95 6 = .ok (.iload_n 3, 1) := by decide +kernel
theorem dr_cJ1_indexOf_5af95_7 : decode cJ1_indexOf_5af95 7 = .ok (.isub, 1) := by decide +kernel
theorem dr_cJ1_indexOf_5af95_8 : decode cJ1_indexOf_5af95 8 = .ok (.istore 6, 2) := by decide +kernel
theorem dr_cJ1_indexOf_5af95_10 : decode cJ1_indexOf_5af95 10 = .ok (.iload 4, 2) := by decide +kernel
theorem dr_cJ1_indexOf_5af95_12 : decode cJ1_indexOf_5af95 12 = .ok (.istore 7, 2) := by decide +kernel
theorem dr_cJ1_indexOf_5af95_14 : decode cJ1_indexOf_5af95 14 = .ok (.iload 7, 2) := by decide +kernel
theorem dr_cJ1_indexOf_5af95_16 : decode cJ1_indexOf_5af95 16 = .ok (.iload 6, 2) := by decide +kernel
theorem dr_cJ1_indexOf_5af95_18 : decode cJ1_indexOf_5af95 18 = .ok (.if_icmp .gt 101, 3) := by decide +kernel
theorem dr_cJ1_indexOf_5af95_119 : decode cJ1_indexOf_5af95 119 = .ok (.iconst (-1), 1) := by decide +kernel
theorem dr_cJ1_indexOf_5af95_120 : decode cJ1_indexOf_5af95 120 = .ok (.ireturn, 1) := by decide +kernel
theorem dr_cJ1_indexOf_5af95_21 : decode cJ1_indexOf_5af95 21 = .ok (.aload_n 0, 1) := by decide +kernel
theorem dr_cJ1_indexOf_5af95_22 : decode cJ1_indexOf_5af95 22 = .ok (.iload 7, 2) := by decide +kernel
theorem dr_cJ1_indexOf_5af95_24 : decode cJ1_indexOf_5af95 24 = .ok (.baload, 1) := by decide +kernel
theorem dr_cJ1_indexOf_5af95_25 : decode cJ1_indexOf_5af95 25 = .ok (.iload 5, 2) := by decide +kernel
theorem dr_cJ1_indexOf_5af95_27 : decode cJ1_indexOf_5af95 27 = .ok (.if_icmp .eq 25, 3) := by decide +kernel
theorem dr_cJ1_indexOf_5af95_52 : decode cJ1_indexOf_5af95 52 = .ok (.iload 7, 2) := by decide +kernel
theorem dr_cJ1_indexOf_5af95_54 : decode cJ1_indexOf_5af95 54 = .ok (.iload 6, 2) := by decide +kernel
theorem dr_cJ1_indexOf_5af95_56 : decode cJ1_indexOf_5af95 56 = .ok (.if_icmp .gt 57, 3) := by decide +kernel
theorem dr_cJ1_indexOf_5af95_113 : decode cJ1_indexOf_5af95 113 = .ok (.iinc 7 1, 3) := by decide +kernel
theorem dr_cJ1_indexOf_5af95_116 : decode cJ1_indexOf_5af95 116 = .ok (.goto (-102), 3) := by decide +kernel
theorem dr_cJ1_indexOf_5af95_59 : decode cJ1_indexOf_5af95 59 = .ok (.iload 7, 2) := by decide +kernel
theorem dr_cJ1_indexOf_5af95_61 : decode cJ1_indexOf_5af95 61 = .ok (.iconst 1, 1) := by decide +kernel
theorem dr_cJ1_indexOf_5af95_62 : decode cJ1_indexOf_5af95 62 = .ok (.iadd, 1) := by decide +kernel
theorem dr_cJ1_indexOf_5af95_63 : decode cJ1_indexOf_5af95 63 = .ok (.istore 8, 2) := by decide +kernel
theorem dr_cJ1_indexOf_5af95_65 : decode cJ1_indexOf_5af95 65 = .ok (.iload 8, 2) := by decide +kernel
theorem dr_cJ1_indexOf_5af95_67 : decode cJ1_indexOf_5af95 67 = .ok (.iload_n 3, 1) := by decide +kernel
theorem dr_cJ1_indexOf_5af95_68 : decode cJ1_indexOf_5af95 68 = .ok (.iadd, 1) := by decide +kernel
theorem dr_cJ1_indexOf_5af95_69 : decode cJ1_indexOf_5af95 69 = .ok (.iconst 1, 1) := by decide +kernel
theorem dr_cJ1_indexOf_5af95_70 : decode cJ1_indexOf_5af95 70 = .ok (.isub, 1) := by decide +kernel
theorem dr_cJ1_indexOf_5af95_71 : decode cJ1_indexOf_5af95 71 = .ok (.istore 9, 2) := by decide +kernel
theorem dr_cJ1_indexOf_5af95_73 : decode cJ1_indexOf_5af95 73 = .ok (.iconst 1, 1) := by decide +kernel
theorem dr_cJ1_indexOf_5af95_74 : decode cJ1_indexOf_5af95 74 = .ok (.istore 10, 2) := by decide +kernel
theorem dr_cJ1_indexOf_5af95_76 : decode cJ1_indexOf_5af95 76 = .ok (.iload 8, 2) := by decide +kernel
theorem dr_cJ1_indexOf_5af95_78 : decode cJ1_indexOf_5af95 78 = .ok (.iload 9, 2) := by decide +kernel
theorem dr_cJ1_indexOf_5af95_80 : decode cJ1_indexOf_5af95 80 = .ok (.if_icmp .ge 23, 3) := by decide +kernel
theorem dr_cJ1_indexOf_5af95_103 : decode cJ1_indexOf_5af95 103 = .ok (.iload 8, 2) := by decide +kernel
theorem dr_cJ1_indexOf_5af95_105 : decode cJ1_indexOf_5af95 105 = .ok (.iload 9, 2) := by decide +kernel
theorem dr_cJ1_indexOf_5af95_107 : decode cJ1_indexOf_5af95 107 = .ok (.if_icmp .ne 6, 3) := by decide +kernel
theorem dr_cJ1_indexOf_5af95_110 : decode cJ1_indexOf_5af95 110 = .ok (.iload 7, 2) := by decide +kernel
theorem dr_cJ1_indexOf_5af95_112 : decode cJ1_indexOf_5af95 112 = .ok (.ireturn, 1) := by decide +kernel
theorem dr_cJ1_indexOf_5af95_83 : decode cJ1_indexOf_5af95 83 = .ok (.aload_n 0, 1) := by decide +kernel
theorem dr_cJ1_indexOf_5af95_84 : decode cJ1_indexOf_5af95 84 = .ok (.iload 8, 2) := by decide +kernel
theorem dr_cJ1_indexOf_5af95_86 : decode cJ1_indexOf_5af95 86 = .ok (.baload, 1) := by decide +kernel
theorem dr_cJ1_indexOf_5af95_87 : decode cJ1_indexOf_5af95 87 = .ok (.aload_n 2, 1) := by decide +kernel
theorem dr_cJ1_indexOf_5af95_88 : decode cJ1_indexOf_5af95 88 = .ok (.iload 10, 2) := by decide +kernel
theorem dr_cJ1_indexOf_5af95_90 : decode cJ1_indexOf_5af95 90 = .ok (.baload, 1) := by decide +kernel
theorem dr_cJ1_indexOf_5af95_91 : decode cJ1_indexOf_5af95 91 = .ok (.if_icmp .ne 12, 3) := by decide +kernel
theorem dr_cJ1_indexOf_5af95_94 : decode cJ1_indexOf_5af95 94 = .ok (.iinc 8 1, 3) := by decide +kernel
theorem dr_cJ1_indexOf_5af95_97 : decode cJ1_indexOf_5af95 97 = .ok (.iinc 10 1, 3) := by decide +kernel
theorem dr_cJ1_indexOf_5af95_100 : decode cJ1_indexOf_5af95 100 = .ok (.goto (-24), 3) := by decide +kernel
theorem dr_cJ1_indexOf_5af95_30 : decode cJ1_indexOf_5af95 30 = .ok (.iinc 7 1, 3) := by decide +kernel
theorem dr_cJ1_indexOf_5af95_33 : decode cJ1_indexOf_5af95 33 = .ok (.iload 7, 2) := by decide +kernel
theorem dr_cJ1_indexOf_5af95_35 : decode cJ1_indexOf_5af95 35 = .ok (.iload 6, 2) := by decide +kernel
theorem dr_cJ1_indexOf_5af95_37 : decode cJ1_indexOf_5af95 37 = .ok (.if_icmp .gt 15, 3) := by decide +kernel
theorem dr_cJ1_indexOf_5af95_40 : decode cJ1_indexOf_5af95 40 = .ok (.aload_n 0, 1) := by decide +kernel
theorem dr_cJ1_indexOf_5af95_41 : decode cJ1_indexOf_5af95 41 = .ok (.iload 7, 2) := by decide +kernel
theorem dr_cJ1_indexOf_5af95_43 : decode cJ1_indexOf_5af95 43 = .ok (.baload, 1) := by decide +kernel
theorem dr_cJ1_indexOf_5af95_44 : decode cJ1_indexOf_5af95 44 = .ok (.iload 5, 2) := by decide +kernel
theorem dr_cJ1_indexOf_5af95_46 : decode cJ1_indexOf_5af95 46 = .ok (.if_icmp .eq 6, 3) := by decide +kernel
theorem dr_cJ1_indexOf_5af95_49 : decode cJ1_indexOf_5af95 49 = .ok (.goto (-19), 3) := by decide +kernel
abbrev ky_660141_String_isLatin1 : gKey := (cJ0_isLatin1_aae02, 1, "java/lang/String", (some FieldType.boolean), [], "isLatin1", fun _ _ => True)
def pp_660141_String_isLatin1 (D : va_G) (I : FieldType → ClassId) (P660136 : List Nat) (F660137 : Nat → va_E) (qs660138 : Nat) (qb660139 : Nat) (bs660140 : List Int32) : Option Value → va_W → Nat → Nat → Prop := fun r w dc ds => r = some (.int 1) ∧ w = va_pl P660136 F660137 ∧ dc ≤ 0 ∧ ds ≤ 0
set_option maxRecDepth 100000 in
set_option maxHeartbeats 4000000 in
theorem cp_660141_String_isLatin1 (l : Launch) (hl0 : l.stackTraces = false) (D : va_G) (I : FieldType → ClassId) (P660136 : List Nat) (F660137 : Nat → va_E) (qs660138 : Nat) (qb660139 : Nat) (bs660140 : List Int32) (hbs660140 : ∀ A s H, (gV D I).2.2.2.1 A s H → gSC qs660138 qb660139 bs660140 A s H) (nbs660140 : (bs660140.length : Int) ≤ 65535) (lbs660140 : gLB bs660140) : CtA (gV D I) l yJ0_isLatin1_aae02 cJ0_isLatin1_aae02 1 (some FieldType.boolean) 0 0 0 0 [.ref qs660138] (va_pl P660136 F660137) (pp_660141_String_isLatin1 D I P660136 F660137 qs660138 qb660139 bs660140) gNA := by
  refine CtA_ofF hl0 (by decide +kernel) (Nat.le_of_ble_eq_true rfl) ?_
  refine G_gets dr_cJ0_isLatin1_aae02_0 wr_3_65 gz_cs (fun x hx => ?_)
  subst hx
  refine G_if_eq 17 dr_cJ0_isLatin1_aae02_3 (by decide +kernel) (fun hc => absurd hc (by decide)) (fun _ => ?_)
  refine G_aload_n 0 dr_cJ0_isLatin1_aae02_6 rfl ?_
  refine G_kget dr_cJ0_isLatin1_aae02_7 wr_8_183 (fun _ _ _ h => (hbs660140 _ _ _ h).2.1) ?_
  refine G_if_ne 17 dr_cJ0_isLatin1_aae02_10 (by decide +kernel) (fun hc => absurd hc (by decide)) (fun _ => ?_)
  refine G_iconst 1 dr_cJ0_isLatin1_aae02_13 (by decide +kernel) ?_
  refine G_goto 18 dr_cJ0_isLatin1_aae02_14 (by decide +kernel) ?_
  exact G_zretA FieldType.boolean dr_cJ0_isLatin1_aae02_18 rfl rfl (Nat.le_of_ble_eq_true rfl) (Nat.le_of_ble_eq_true rfl) ⟨rfl, rfl, (Nat.le_of_ble_eq_true rfl), (Nat.le_of_ble_eq_true rfl)⟩
/- tr_RStringLatin1_charAt: result -/
def tr_RStringLatin1_charAt (bs : List Int32) (a1 : Int32) (o1 : Int32) : Prop := ∀ R : (Int32) → Prop,
  (∀ (x1 : Int32) (x2 : Int32) (x3 : Int32) (x4 : Int32), x1.toInt = (bs.length : Int) → tr_RString_checkIndex a1 x1 → x2 = bs.getD a1.toNatClampNeg 0 → x3 = x2 &&& (255 : Int32) → x4 = (x3.toUInt32 % 65536).toInt32 → R x4) →
  R o1
abbrev ky_660153_StringLatin1_charAt : gKey := (cJ1_charAt_3b067, 2, "java/lang/StringLatin1", (some FieldType.char), [], "charAt", fun _ _ => True)
def pp_660153_StringLatin1_charAt (D : va_G) (I : FieldType → ClassId) (P660147 : List Nat) (F660148 : Nat → va_E) (qs660149 : Nat) (bs660150 : List Int32) (p660151 : Int32) : Option Value → va_W → Nat → Nat → Prop := fun r w dc ds => ∃ (o660164 : Int32), r = some (.int o660164) ∧ w = va_pl P660147 F660148 ∧ dc ≤ 0 ∧ ds ≤ 0 ∧ gB o660164 0 65535 ∧ tr_RStringLatin1_charAt bs660150 p660151 o660164
set_option maxRecDepth 100000 in
set_option maxHeartbeats 4000000 in
theorem cp_660153_StringLatin1_charAt (l : Launch) (hl0 : l.stackTraces = false) (D : va_G) (I : FieldType → ClassId) (P660147 : List Nat) (F660148 : Nat → va_E) (qs660149 : Nat) (bs660150 : List Int32) (p660151 : Int32) (hbs660150 : ∀ A s H, (gV D I).2.2.2.1 A s H → va_T .byte qs660149 bs660150.length (fun j => .int (bs660150.getD j 0)) A s H) (nbs660150 : (bs660150.length : Int) ≤ 65535) (lbs660150 : gLB bs660150) (bp660151 : gB p660151 0 16777215) (x660152 : p660151.toInt < (bs660150.length : Int)) : CtA (gV D I) l yJ1_charAt_3b067 cJ1_charAt_3b067 2 (some FieldType.char) 2 43 0 0 [.ref qs660149, .int p660151] (va_pl P660147 F660148) (pp_660153_StringLatin1_charAt D I P660147 F660148 qs660149 bs660150 p660151) gNA := by
  refine CtA_ofF hl0 (by decide +kernel) (Nat.le_of_ble_eq_true rfl) ?_
  refine G_iload_n 1 dr_cJ1_charAt_3b067_0 rfl ?_
  refine G_aload_n 0 dr_cJ1_charAt_3b067_1 rfl ?_
  refine G_klen dr_cJ1_charAt_3b067_2 hbs660150 (G_nam fun z660154 hz660154 => ?_)
  have ez660154 : z660154.toInt = (bs660150.length : Int) := gI_ofN hz660154 nbs660150
  have bz660154 : gB z660154 0 65535 := ⟨by omega, by omega⟩
  refine Gw_callS (As := [.int p660151, .int z660154]) (gV_ok D I) (cp_658460_String_checkIndex l hl0 D I P660147 F660148 p660151 z660154 (gB_w bp660151 (by decide) (by decide)) (gB_w bz660154 (by decide) (by decide)) (by omega)) dr_cJ1_charAt_3b067_3 ⟨wr_3_78, wr_1_21, wr_3_80, by decide, rfl, (Nat.le_of_ble_eq_true rfl), (Nat.le_of_ble_eq_true rfl)⟩ wr_3_79 (show 0 + 0 ≤ 0 by first | omega | decide) (show 0 + 0 ≤ 0 by first | omega | decide) (Nat.le_of_ble_eq_true rfl) (fun r660158 w660159 dc660155 ds660156 hp660157 => ?_) (fun _ _ _ _ _ z => z.elim)
  obtain ⟨rfl, rfl, hdc, hds, ht660160⟩ := hp660157
  change G _ _ _ _ _ _ _ _ _ _ _
  refine G_widen (cs' := 0) (sl' := 0) (by omega) (by omega) ?_
  refine G_aload_n 0 dr_cJ1_charAt_3b067_6 rfl ?_
  refine G_iload_n 1 dr_cJ1_charAt_3b067_7 rfl ?_
  refine G_kbald (f := fun j => bs660150.getD j 0) dr_cJ1_charAt_3b067_8 hbs660150 (gB_inr (by omega) (by omega)) (G_nam fun z660161 hz660161 => ?_)
  have bz660161 : gB z660161 (-2147483648) 2147483647 := gB_any z660161
  refine G_sipush 255 dr_cJ1_charAt_3b067_9 (by decide +kernel) ?_
  refine G_iand dr_cJ1_charAt_3b067_12 (G_nam fun z660162 hz660162 => ?_)
  have bz660162 : gB z660162 0 255 := gB_and hz660162 (gBl (show Int32.toInt 255 = 255 by decide)) (by decide)
  refine G_i2c dr_cJ1_charAt_3b067_13 (G_nam fun z660163 hz660163 => ?_)
  have bz660163 : gB z660163 0 65535 := gB_i2c hz660163
  exact G_zretA FieldType.char dr_cJ1_charAt_3b067_14 rfl (gN_char bz660163) (Nat.le_of_ble_eq_true rfl) (Nat.le_of_ble_eq_true rfl) ⟨z660163, rfl, rfl, (Nat.le_of_ble_eq_true rfl), (Nat.le_of_ble_eq_true rfl), bz660163, (fun R c1 => c1 z660154 z660161 z660162 z660163 ez660154 ht660160 hz660161 hz660162 hz660163)⟩
/- tr_RString_charAt: result -/
def tr_RString_charAt (bs : List Int32) (a1 : Int32) (o1 : Int32) : Prop := ∀ R : (Int32) → Prop,
  (∀ (x1 : Int32), gB x1 0 65535 → tr_RStringLatin1_charAt bs a1 x1 → R x1) →
  R o1
abbrev ky_660135_String_charAt : gKey := (cJ0_charAt_5068e, 2, "java/lang/String", (some FieldType.char), [], "charAt", fun _ _ => True)
def pp_660135_String_charAt (D : va_G) (I : FieldType → ClassId) (P660128 : List Nat) (F660129 : Nat → va_E) (qs660130 : Nat) (qb660131 : Nat) (bs660132 : List Int32) (p660133 : Int32) : Option Value → va_W → Nat → Nat → Prop := fun r w dc ds => ∃ (o660172 : Int32), r = some (.int o660172) ∧ w = va_pl P660128 F660129 ∧ dc ≤ 0 ∧ ds ≤ 0 ∧ gB o660172 0 65535 ∧ tr_RString_charAt bs660132 p660133 o660172
set_option maxRecDepth 100000 in
set_option maxHeartbeats 4000000 in
theorem cp_660135_String_charAt (l : Launch) (hl0 : l.stackTraces = false) (D : va_G) (I : FieldType → ClassId) (P660128 : List Nat) (F660129 : Nat → va_E) (qs660130 : Nat) (qb660131 : Nat) (bs660132 : List Int32) (p660133 : Int32) (hbs660132 : ∀ A s H, (gV D I).2.2.2.1 A s H → gSC qs660130 qb660131 bs660132 A s H) (nbs660132 : (bs660132.length : Int) ≤ 65535) (lbs660132 : gLB bs660132) (bp660133 : gB p660133 0 65535) (x660134 : p660133.toInt < (bs660132.length : Int)) : CtA (gV D I) l yJ0_charAt_5068e cJ0_charAt_5068e 2 (some FieldType.char) 3 64 0 0 [.ref qs660130, .int p660133] (va_pl P660128 F660129) (pp_660135_String_charAt D I P660128 F660129 qs660130 qb660131 bs660132 p660133) gNA := by
  refine CtA_ofF hl0 (by decide +kernel) (Nat.le_of_ble_eq_true rfl) ?_
  refine G_aload_n 0 dr_cJ0_charAt_5068e_0 rfl ?_
  refine Gw_callVk (As := []) (gV_ok D I) (cp_660141_String_isLatin1 l hl0 D I P660128 F660129 qs660130 qb660131 bs660132 hbs660132 nbs660132 lbs660132) dr_cJ0_charAt_5068e_1 ⟨wr_3_71, wr_1_21, wr_3_74, by decide, rfl, (Nat.le_of_ble_eq_true rfl), (Nat.le_of_ble_eq_true rfl)⟩ wr_3_72 wr_3_73 (fun _ _ _ h => (hbs660132 _ _ _ h).1) (show 0 + 0 ≤ 0 by first | omega | decide) (show 0 + 0 ≤ 0 by first | omega | decide) (Nat.le_of_ble_eq_true rfl) (fun r660145 w660146 dc660142 ds660143 hp660144 => ?_) (fun _ _ _ _ _ z => z.elim)
  obtain ⟨rfl, rfl, hdc, hds⟩ := hp660144
  change G _ _ _ _ _ _ _ (.int 1 :: _) _ _ _
  refine G_widen (cs' := 0) (sl' := 0) (by omega) (by omega) ?_
  refine G_if_eq 16 dr_cJ0_charAt_5068e_4 (by decide +kernel) (fun hc => absurd hc (by decide)) (fun _ => ?_)
  refine G_aload_n 0 dr_cJ0_charAt_5068e_7 rfl ?_
  refine G_kget dr_cJ0_charAt_5068e_8 wr_8_182 (fun _ _ _ h => (hbs660132 _ _ _ h).2.2.1) ?_
  refine G_iload_n 1 dr_cJ0_charAt_5068e_11 rfl ?_
  refine Gw_callS (As := [.ref qb660131, .int p660133]) (gV_ok D I) (cp_660153_StringLatin1_charAt l hl0 D I P660128 F660129 qb660131 bs660132 p660133 (fun _ _ _ h => (hbs660132 _ _ _ h).2.2.2) (by omega) lbs660132 (gB_w bp660133 (by decide) (by decide)) (by omega)) dr_cJ0_charAt_5068e_12 ⟨wr_3_75, wr_1_28, wr_3_77, by decide, rfl, (Nat.le_of_ble_eq_true rfl), (Nat.le_of_ble_eq_true rfl)⟩ wr_3_76 (show 0 + 0 ≤ 0 by first | omega | decide) (show 0 + 0 ≤ 0 by first | omega | decide) (Nat.le_of_ble_eq_true rfl) (fun r660168 w660169 dc660165 ds660166 hp660167 => ?_) (fun _ _ _ _ _ z => z.elim)
  obtain ⟨o660170, rfl, rfl, hdc, hds, bo660170, ht660171⟩ := hp660167
  change G _ _ _ _ _ _ _ (.int o660170 :: _) _ _ _
  refine G_widen (cs' := 0) (sl' := 0) (by omega) (by omega) ?_
  exact G_zretA FieldType.char dr_cJ0_charAt_5068e_15 rfl (gN_char bo660170) (Nat.le_of_ble_eq_true rfl) (Nat.le_of_ble_eq_true rfl) ⟨o660170, rfl, rfl, (Nat.le_of_ble_eq_true rfl), (Nat.le_of_ble_eq_true rfl), bo660170, (fun R c1 => c1 o660170 bo660170 ht660171)⟩
/- tl_RStringLatin1_indexOf2_76: l10, l8; out: l8 -/
def tl_RStringLatin1_indexOf2_76 (c1 : Int32) (bs : List Int32) (a2_v : Nat → Int32) (s1 : Int32) (s2 : Int32) (k : Nat) (e1 : Int32) : Prop := ∀ R : (Int32) → (Int32) → Nat → (Int32) → Prop,
  (∀ (l10_2 : Int32) (l8_2 : Int32), gB l10_2 1 16777217 → gB l8_2 (-2147483645) 33554431 → c1.toInt ≤ l8_2.toInt → R l10_2 l8_2 103 l8_2) →
  (∀ (l10_2 : Int32) (l8_2 : Int32) (x1 : Int32) (x2 : Int32), gB l10_2 1 16777217 → gB l8_2 (-2147483645) 33554431 → l8_2.toInt < c1.toInt → x1 = bs.getD l8_2.toNatClampNeg 0 → x2 = a2_v l10_2.toNatClampNeg → gB x2 (-128) 127 → x1.toInt ≠ x2.toInt → R l10_2 l8_2 103 l8_2) →
  (∀ (l10_2 : Int32) (l8_2 : Int32) (x1 : Int32) (x2 : Int32) (x3 : Int32) (x4 : Int32) (k : Nat) (e1 : Int32), gB l10_2 1 16777217 → gB l8_2 (-2147483645) 33554431 → l8_2.toInt < c1.toInt → x1 = bs.getD l8_2.toNatClampNeg 0 → x2 = a2_v l10_2.toNatClampNeg → gB x2 (-128) 127 → x1.toInt = x2.toInt → x3.toInt = l8_2.toInt + 1 → x4.toInt = l10_2.toInt + 1 → R x4 x3 k e1 → R l10_2 l8_2 k e1) →
  R s1 s2 k e1
/- tl_RStringLatin1_indexOf2_76_2: l10, l8; out: l8 -/
def tl_RStringLatin1_indexOf2_76_2 (c1 : Int32) (bs : List Int32) (a2_v : Nat → Int32) (s1 : Int32) (s2 : Int32) (k : Nat) (e1 : Int32) : Prop := ∀ R : (Int32) → (Int32) → Nat → (Int32) → Prop,
  (∀ (l10_2 : Int32) (l8_2 : Int32), gB l10_2 1 16777217 → gB l8_2 (-16777214) 33554431 → c1.toInt ≤ l8_2.toInt → R l10_2 l8_2 103 l8_2) →
  (∀ (l10_2 : Int32) (l8_2 : Int32) (x1 : Int32) (x2 : Int32), gB l10_2 1 16777217 → gB l8_2 (-16777214) 33554431 → l8_2.toInt < c1.toInt → x1 = bs.getD l8_2.toNatClampNeg 0 → x2 = a2_v l10_2.toNatClampNeg → gB x2 (-128) 127 → x1.toInt ≠ x2.toInt → R l10_2 l8_2 103 l8_2) →
  (∀ (l10_2 : Int32) (l8_2 : Int32) (x1 : Int32) (x2 : Int32) (x3 : Int32) (x4 : Int32) (k : Nat) (e1 : Int32), gB l10_2 1 16777217 → gB l8_2 (-16777214) 33554431 → l8_2.toInt < c1.toInt → x1 = bs.getD l8_2.toNatClampNeg 0 → x2 = a2_v l10_2.toNatClampNeg → gB x2 (-128) 127 → x1.toInt = x2.toInt → x3.toInt = l8_2.toInt + 1 → x4.toInt = l10_2.toInt + 1 → R x4 x3 k e1 → R l10_2 l8_2 k e1) →
  R s1 s2 k e1
/- tl_RStringLatin1_indexOf2_76_3: l10, l8; out: l8 -/
def tl_RStringLatin1_indexOf2_76_3 (c1 : Int32) (bs : List Int32) (a2_v : Nat → Int32) (s1 : Int32) (s2 : Int32) (k : Nat) (e1 : Int32) : Prop := ∀ R : (Int32) → (Int32) → Nat → (Int32) → Prop,
  (∀ (l10_2 : Int32) (l8_2 : Int32), gB l10_2 1 16777217 → gB l8_2 (-2147483644) 33554431 → c1.toInt ≤ l8_2.toInt → R l10_2 l8_2 103 l8_2) →
  (∀ (l10_2 : Int32) (l8_2 : Int32) (x1 : Int32) (x2 : Int32), gB l10_2 1 16777217 → gB l8_2 (-2147483644) 33554431 → l8_2.toInt < c1.toInt → x1 = bs.getD l8_2.toNatClampNeg 0 → x2 = a2_v l10_2.toNatClampNeg → gB x2 (-128) 127 → x1.toInt ≠ x2.toInt → R l10_2 l8_2 103 l8_2) →
  (∀ (l10_2 : Int32) (l8_2 : Int32) (x1 : Int32) (x2 : Int32) (x3 : Int32) (x4 : Int32) (k : Nat) (e1 : Int32), gB l10_2 1 16777217 → gB l8_2 (-2147483644) 33554431 → l8_2.toInt < c1.toInt → x1 = bs.getD l8_2.toNatClampNeg 0 → x2 = a2_v l10_2.toNatClampNeg → gB x2 (-128) 127 → x1.toInt = x2.toInt → x3.toInt = l8_2.toInt + 1 → x4.toInt = l10_2.toInt + 1 → R x4 x3 k e1 → R l10_2 l8_2 k e1) →
  R s1 s2 k e1
/- tl_RStringLatin1_indexOf2_30: l7; out: l7 -/
def tl_RStringLatin1_indexOf2_30 (c1 : Int32) (bs : List Int32) (c2 : Int32) (s1 : Int32) (k : Nat) (e1 : Int32) : Prop := ∀ R : (Int32) → Nat → (Int32) → Prop,
  (∀ (l7_2 : Int32) (x1 : Int32), gB l7_2 (-2147483646) 16777215 → x1.toInt = l7_2.toInt + 1 → c1.toInt < x1.toInt → R l7_2 52 x1) →
  (∀ (l7_2 : Int32) (x1 : Int32) (x2 : Int32), gB l7_2 (-2147483646) 16777215 → x1.toInt = l7_2.toInt + 1 → x1.toInt ≤ c1.toInt → x2 = bs.getD x1.toNatClampNeg 0 → x2.toInt = c2.toInt → R l7_2 52 x1) →
  (∀ (l7_2 : Int32) (x1 : Int32) (x2 : Int32) (k : Nat) (e1 : Int32), gB l7_2 (-2147483646) 16777215 → x1.toInt = l7_2.toInt + 1 → x1.toInt ≤ c1.toInt → x2 = bs.getD x1.toNatClampNeg 0 → x2.toInt ≠ c2.toInt → R x1 k e1 → R l7_2 k e1) →
  R s1 k e1
/- tl_RStringLatin1_indexOf2_14: l7; out: l7 -/
def tl_RStringLatin1_indexOf2_14 (c1 : Int32) (bs : List Int32) (c2 : Int32) (a3 : Int32) (a2_v : Nat → Int32) (s1 : Int32) (k : Nat) (e1 : Int32) : Prop := ∀ R : (Int32) → Nat → (Int32) → Prop,
  (∀ (l7_1 : Int32), gB l7_1 (-2147483646) 16777217 → c1.toInt < l7_1.toInt → R l7_1 119 (0 : Int32)) →
  (∀ (l7_1 : Int32) (x1 : Int32) (x2 : Int32) (k : Nat) (e1 : Int32), gB l7_1 (-2147483646) 16777217 → l7_1.toInt ≤ c1.toInt → x1 = bs.getD l7_1.toNatClampNeg 0 → x1.toInt = c2.toInt → c1.toInt < l7_1.toInt → x2.toInt = l7_1.toInt + 1 → R x2 k e1 → R l7_1 k e1) →
  (∀ (l7_1 : Int32) (x1 : Int32) (x2 : Int32) (x3 : Int32) (x4 : Int32) (x5 : Int32) (x6 : Int32) (k : Nat) (e1 : Int32), gB l7_1 (-2147483646) 16777217 → l7_1.toInt ≤ c1.toInt → x1 = bs.getD l7_1.toNatClampNeg 0 → x1.toInt = c2.toInt → l7_1.toInt ≤ c1.toInt → x2.toInt = l7_1.toInt + 1 → x3.toInt = x2.toInt + a3.toInt → x4.toInt = x3.toInt - 1 → tl_RStringLatin1_indexOf2_76 x4 bs a2_v (1 : Int32) x2 103 x5 → x5.toInt ≠ x4.toInt → x6.toInt = l7_1.toInt + 1 → R x6 k e1 → R l7_1 k e1) →
  (∀ (l7_1 : Int32) (x1 : Int32) (x2 : Int32) (x3 : Int32) (x4 : Int32) (x5 : Int32), gB l7_1 (-2147483646) 16777217 → l7_1.toInt ≤ c1.toInt → x1 = bs.getD l7_1.toNatClampNeg 0 → x1.toInt = c2.toInt → l7_1.toInt ≤ c1.toInt → x2.toInt = l7_1.toInt + 1 → x3.toInt = x2.toInt + a3.toInt → x4.toInt = x3.toInt - 1 → tl_RStringLatin1_indexOf2_76 x4 bs a2_v (1 : Int32) x2 103 x5 → x5.toInt = x4.toInt → R l7_1 110 l7_1) →
  (∀ (l7_1 : Int32) (x1 : Int32) (x2 : Int32) (x3 : Int32) (k : Nat) (e1 : Int32), gB l7_1 (-2147483646) 16777217 → l7_1.toInt ≤ c1.toInt → x1 = bs.getD l7_1.toNatClampNeg 0 → x1.toInt ≠ c2.toInt → tl_RStringLatin1_indexOf2_30 c1 bs c2 l7_1 52 x2 → c1.toInt < x2.toInt → x3.toInt = x2.toInt + 1 → R x3 k e1 → R l7_1 k e1) →
  (∀ (l7_1 : Int32) (x1 : Int32) (x2 : Int32) (x3 : Int32) (x4 : Int32) (x5 : Int32) (x6 : Int32) (x7 : Int32) (k : Nat) (e1 : Int32), gB l7_1 (-2147483646) 16777217 → l7_1.toInt ≤ c1.toInt → x1 = bs.getD l7_1.toNatClampNeg 0 → x1.toInt ≠ c2.toInt → tl_RStringLatin1_indexOf2_30 c1 bs c2 l7_1 52 x2 → x2.toInt ≤ c1.toInt → x3.toInt = x2.toInt + 1 → x4.toInt = x3.toInt + a3.toInt → x5.toInt = x4.toInt - 1 → tl_RStringLatin1_indexOf2_76_2 x5 bs a2_v (1 : Int32) x3 103 x6 → x6.toInt ≠ x5.toInt → x7.toInt = x2.toInt + 1 → R x7 k e1 → R l7_1 k e1) →
  (∀ (l7_1 : Int32) (x1 : Int32) (x2 : Int32) (x3 : Int32) (x4 : Int32) (x5 : Int32) (x6 : Int32), gB l7_1 (-2147483646) 16777217 → l7_1.toInt ≤ c1.toInt → x1 = bs.getD l7_1.toNatClampNeg 0 → x1.toInt ≠ c2.toInt → tl_RStringLatin1_indexOf2_30 c1 bs c2 l7_1 52 x2 → x2.toInt ≤ c1.toInt → x3.toInt = x2.toInt + 1 → x4.toInt = x3.toInt + a3.toInt → x5.toInt = x4.toInt - 1 → tl_RStringLatin1_indexOf2_76_2 x5 bs a2_v (1 : Int32) x3 103 x6 → x6.toInt = x5.toInt → R l7_1 110 x2) →
  (∀ (l7_1 : Int32) (x1 : Int32) (x2 : Int32) (x3 : Int32) (x4 : Int32) (x5 : Int32) (x6 : Int32) (x7 : Int32) (k : Nat) (e1 : Int32), gB l7_1 (-2147483646) 16777217 → l7_1.toInt ≤ c1.toInt → x1 = bs.getD l7_1.toNatClampNeg 0 → x1.toInt ≠ c2.toInt → tl_RStringLatin1_indexOf2_30 c1 bs c2 l7_1 52 x2 → x2.toInt ≤ c1.toInt → x3.toInt = x2.toInt + 1 → x4.toInt = x3.toInt + a3.toInt → x5.toInt = x4.toInt - 1 → tl_RStringLatin1_indexOf2_76_3 x5 bs a2_v (1 : Int32) x3 103 x6 → x6.toInt ≠ x5.toInt → x7.toInt = x2.toInt + 1 → R x7 k e1 → R l7_1 k e1) →
  (∀ (l7_1 : Int32) (x1 : Int32) (x2 : Int32) (x3 : Int32) (x4 : Int32) (x5 : Int32) (x6 : Int32), gB l7_1 (-2147483646) 16777217 → l7_1.toInt ≤ c1.toInt → x1 = bs.getD l7_1.toNatClampNeg 0 → x1.toInt ≠ c2.toInt → tl_RStringLatin1_indexOf2_30 c1 bs c2 l7_1 52 x2 → x2.toInt ≤ c1.toInt → x3.toInt = x2.toInt + 1 → x4.toInt = x3.toInt + a3.toInt → x5.toInt = x4.toInt - 1 → tl_RStringLatin1_indexOf2_76_3 x5 bs a2_v (1 : Int32) x3 103 x6 → x6.toInt = x5.toInt → R l7_1 110 x2) →
  R s1 k e1
/- tr_RStringLatin1_indexOf2: result -/
def tr_RStringLatin1_indexOf2 (bs : List Int32) (a1 : Int32) (a3 : Int32) (a2_v : Nat → Int32) (o1 : Int32) : Prop := ∀ R : (Int32) → Prop,
  (∀ (x1 : Int32) (x2 : Int32), x1 = a2_v (0 : Int32).toNatClampNeg → gB x1 (-128) 127 → x2.toInt = a1.toInt - a3.toInt → tl_RStringLatin1_indexOf2_14 x2 bs x1 a3 a2_v (0 : Int32) 119 (0 : Int32) → R (-1 : Int32)) →
  (∀ (x1 : Int32) (x2 : Int32) (x3 : Int32), x1 = a2_v (0 : Int32).toNatClampNeg → gB x1 (-128) 127 → x2.toInt = a1.toInt - a3.toInt → tl_RStringLatin1_indexOf2_14 x2 bs x1 a3 a2_v (0 : Int32) 110 x3 → R x3) →
  R o1
abbrev ky_660233_StringLatin1_indexOf : gKey := (cJ1_indexOf_5af95, 11, "java/lang/StringLatin1", (some FieldType.int), [], "indexOf", fun _ _ => True)
def pp_660233_StringLatin1_indexOf (D : va_G) (I : FieldType → ClassId) (P660221 : List Nat) (F660222 : Nat → va_E) (q660223 : Nat) (qs660224 : Nat) (bs660225 : List Int32) (p660226 : Int32) (p660227 : Int32) (f660228 : Nat → Int32) (n660229 : Nat) : Option Value → va_W → Nat → Nat → Prop := fun r w dc ds => ∃ (o667233 : Int32), r = some (.int o667233) ∧ w = va_pl P660221 F660222 ∧ dc ≤ 0 ∧ ds ≤ 0 ∧ gB o667233 (-2147483646) 16777215 ∧ (o667233.toInt < 0 ∨ o667233.toInt + p660227.toInt ≤ p660226.toInt) ∧ ixP (fun j => bs660225.getD j 0) f660228 o667233 ∧ tr_RStringLatin1_indexOf2 bs660225 p660226 p660227 f660228 o667233
set_option maxRecDepth 100000 in
set_option maxHeartbeats 4000000 in
theorem cp_660233_StringLatin1_indexOf (l : Launch) (hl0 : l.stackTraces = false) (D : va_G) (I : FieldType → ClassId) (P660221 : List Nat) (F660222 : Nat → va_E) (q660223 : Nat) (qs660224 : Nat) (bs660225 : List Int32) (p660226 : Int32) (p660227 : Int32) (f660228 : Nat → Int32) (n660229 : Nat) (hmq660223 : q660223 ∈ P660221) (heq660223 : F660222 q660223 = .inl (I .byte, n660229, .inl f660228)) (hbs660225 : ∀ A s H, (gV D I).2.2.2.1 A s H → va_T .byte qs660224 bs660225.length (fun j => .int (bs660225.getD j 0)) A s H) (nbs660225 : (bs660225.length : Int) ≤ 65535) (lbs660225 : gLB bs660225) (bp660226 : gB p660226 0 16777216) (bp660227 : gB p660227 1 16777216) (bf660228 : gF f660228 (-128) 127) (x660230 : p660226.toInt = (bs660225.length : Int)) (x660231 : p660227.toInt = (n660229 : Int)) (x660232 : ((n660229 : Int) ≤ 16777216)) : CtA (gV D I) l yJ1_indexOf_5af95 cJ1_indexOf_5af95 11 (some FieldType.int) 0 0 0 0 [.ref qs660224, .int p660226, .ref q660223, .int p660227, .int 0] (va_pl P660221 F660222) (pp_660233_StringLatin1_indexOf D I P660221 F660222 q660223 qs660224 bs660225 p660226 p660227 f660228 n660229) gNA := by
  refine CtA_ofF hl0 (by decide +kernel) (Nat.le_of_ble_eq_true rfl) ?_
  refine G_aload_n 2 dr_cJ1_indexOf_5af95_0 rfl ?_
  refine G_iconst 0 dr_cJ1_indexOf_5af95_1 (by decide +kernel) ?_
  refine Gp_bald 1 hmq660223 heq660223 dr_cJ1_indexOf_5af95_2 rfl (gB_inr (x := 0) (show (0 : Int) ≤ Int32.toInt 0 by decide) (show Int32.toInt 0 < _ by rw [show Int32.toInt 0 = 0 by decide]; omega)) (G_nam fun z660234 hz660234 => ?_)
  have bz660234 : gB z660234 (-128) 127 := by rw [hz660234]; exact bf660228 _
  refine G_istore (L' := [(5, .int z660234), (0, .ref qs660224), (1, .int p660226), (2, .ref q660223), (3, .int p660227), (4, .int 0)]) dr_cJ1_indexOf_5af95_3 (Nat.le_of_ble_eq_true rfl) rfl ?_
  refine G_iload_n 2 dr_cJ1_indexOf_5af95_5 rfl ?_
  refine G_iload_n 4 dr_cJ1_indexOf_5af95_6 rfl ?_
  refine G_isub dr_cJ1_indexOf_5af95_7 (G_nam fun z660235 hz660235 => ?_)
  have ez660235 : z660235.toInt = p660226.toInt - p660227.toInt := by rw [gI_sub hz660235 bp660226 bp660227 (by decide) (by decide)]
  have bz660235 : gB z660235 (-16777216) 16777215 := gB_sub (gI_sub hz660235 bp660226 bp660227 (by decide) (by decide)) bp660226 bp660227 (by decide) (by decide)
  refine G_istore (L' := [(6, .int z660235), (5, .int z660234), (0, .ref qs660224), (1, .int p660226), (2, .ref q660223), (3, .int p660227), (4, .int 0)]) dr_cJ1_indexOf_5af95_8 (Nat.le_of_ble_eq_true rfl) rfl ?_
  refine G_iload 6 dr_cJ1_indexOf_5af95_10 rfl ?_
  refine G_istore (L' := [(7, .int 0), (6, .int z660235), (5, .int z660234), (0, .ref qs660224), (1, .int p660226), (2, .ref q660223), (3, .int p660227), (4, .int 0)]) dr_cJ1_indexOf_5af95_12 (Nat.le_of_ble_eq_true rfl) rfl ?_
  have hlp14_666146 : ∀ (n14_666146 : Nat) (g666145 : Int32), gB g666145 (-2147483646) 16777217 → 0 ≤ g666145.toInt → (∀ (k : Nat) (e1 : Int32), tl_RStringLatin1_indexOf2_14 z660235 bs660225 z660234 p660227 f660228 g666145 k e1 → tl_RStringLatin1_indexOf2_14 z660235 bs660225 z660234 p660227 f660228 (0 : Int32) k e1) → ((z660235.toInt : Int) + 2 - g666145.toInt).toNat < n14_666146 → G (gV D I) l (gRm 0 0 0 0) (gMA (gV D I) (pp_660233_StringLatin1_indexOf D I P660221 F660222 q660223 qs660224 bs660225 p660226 p660227 f660228 n660229) gNA 0 0) ky_660233_StringLatin1_indexOf 14 [(7, .int g666145), (6, .int z660235), (5, .int z660234), (0, .ref qs660224), (1, .int p660226), (2, .ref q660223), (3, .int p660227), (4, .int 0)] [] (va_pl P660221 F660222) 0 0 := by
    intro n14_666146
    induction n14_666146 with
    | zero => intro g666145 bg666145 x666146 kt14_666146 hm14_666146; exact absurd hm14_666146 (Nat.not_lt_zero _)
    | succ n14_666146 ih14_666146 =>
      intro g666145 bg666145 x666146 kt14_666146 hm14_666146
      refine G_iload 0 dr_cJ1_indexOf_5af95_14 rfl ?_
      refine G_iload 1 dr_cJ1_indexOf_5af95_16 rfl ?_
      refine G_icmp_gt 119 dr_cJ1_indexOf_5af95_18 (by decide +kernel) (fun hc666147 => ?_) (fun hc666147 => ?_)
      · have r666148 : z660235.toInt < g666145.toInt := gC_lt hc666147
        have bg666145' : gB g666145 (-16777215) 16777217 := ⟨by omega, by omega⟩
        have hx666149 : tl_RStringLatin1_indexOf2_14 z660235 bs660225 z660234 p660227 f660228 (0 : Int32) 119 (0 : Int32) := kt14_666146 119 (0 : Int32) (fun R c1 c2 c3 c4 c5 c6 c7 c8 c9 => c1 g666145 bg666145 r666148)
        refine G_iconst (-1) dr_cJ1_indexOf_5af95_119 (by decide +kernel) ?_
        exact G_iretA dr_cJ1_indexOf_5af95_120 rfl (Nat.le_of_ble_eq_true rfl) (Nat.le_of_ble_eq_true rfl) ⟨(-1), rfl, rfl, (Nat.le_of_ble_eq_true rfl), (Nat.le_of_ble_eq_true rfl), (gB_w (gBl (show Int32.toInt (-1) = (-1) by decide)) (by decide) (by decide)), (by have qa0 : Int32.toInt (-1) = (-1) := (by decide); have qa1 : Int32.toInt 0 = 0 := (by decide); omega), (ixP_n (by decide)), (fun R c1 c2 => c1 z660234 z660235 hz660234 bz660234 ez660235 hx666149)⟩
      · have r666150 : g666145.toInt ≤ z660235.toInt := gC_nlt hc666147
        have bg666145' : gB g666145 (-2147483646) 16777215 := ⟨by omega, by omega⟩
        refine G_aload_n 3 dr_cJ1_indexOf_5af95_21 rfl ?_
        refine G_iload 0 dr_cJ1_indexOf_5af95_22 rfl ?_
        refine G_kbald (f := fun j => bs660225.getD j 0) dr_cJ1_indexOf_5af95_24 hbs660225 (gB_inr (by omega) (by omega)) (G_nam fun z666151 hz666151 => ?_)
        have bz666151 : gB z666151 (-2147483648) 2147483647 := gB_any z666151
        refine G_iload 2 dr_cJ1_indexOf_5af95_25 rfl ?_
        refine G_icmp_eq 52 dr_cJ1_indexOf_5af95_27 (by decide +kernel) (fun hc666152 => ?_) (fun hc666152 => ?_)
        · have r666153 : z666151.toInt = z660234.toInt := gC_eq hc666152
          have bz666151' : gB z666151 (-128) 127 := ⟨by omega, by omega⟩
          refine G_iload 0 dr_cJ1_indexOf_5af95_52 rfl ?_
          refine G_iload 1 dr_cJ1_indexOf_5af95_54 rfl ?_
          refine G_icmp_gt 113 dr_cJ1_indexOf_5af95_56 (by decide +kernel) (fun hc666154 => ?_) (fun hc666154 => ?_)
          · have r666155 : z660235.toInt < g666145.toInt := gC_lt hc666154
            have bz660235' : gB z660235 (-16777216) 16777214 := ⟨by omega, by omega⟩
            have bg666145'' : gB g666145 (-16777215) 16777215 := ⟨by omega, by omega⟩
            obtain ⟨z666156, hz666156⟩ : ∃ z : Int32, z = g666145 + Int32.ofInt 1 := ⟨_, rfl⟩
            have ez666156 : z666156.toInt = g666145.toInt + 1 := gI_inc hz666156 (by decide) bg666145'' (by decide) (by decide)
            have bz666156 : gB z666156 (-16777214) 16777216 := ⟨by omega, by omega⟩
            refine G_iinc (L' := [(7, .int z666156), (6, .int z660235), (5, .int z660234), (0, .ref qs660224), (1, .int p660226), (2, .ref q660223), (3, .int p660227), (4, .int 0)]) z666156 0 dr_cJ1_indexOf_5af95_113 rfl hz666156.symm (Nat.le_of_ble_eq_true rfl) rfl ?_
            refine G_goto 14 dr_cJ1_indexOf_5af95_116 (by decide +kernel) ?_
            exact ih14_666146 z666156 (gB_w bz666156 (by decide) (by decide)) (by have qa0 : Int32.toInt 0 = 0 := (by decide); omega) (fun k e1 ht => kt14_666146 k e1 (fun R c1 c2 c3 c4 c5 c6 c7 c8 c9 => c2 g666145 z666151 z666156 k e1 bg666145 r666150 hz666151 r666153 r666155 ez666156 (ht R c1 c2 c3 c4 c5 c6 c7 c8 c9))) (by have qa0 : Int32.toInt 0 = 0 := (by decide); omega)
          · have r666157 : g666145.toInt ≤ z660235.toInt := gC_nlt hc666154
            refine G_iload 0 dr_cJ1_indexOf_5af95_59 rfl ?_
            refine G_iconst 1 dr_cJ1_indexOf_5af95_61 (by decide +kernel) ?_
            refine G_iadd dr_cJ1_indexOf_5af95_62 (G_nam fun z666158 hz666158 => ?_)
            have ez666158 : z666158.toInt = g666145.toInt + 1 := by rw [gI_add hz666158 bg666145' (gBl (show Int32.toInt 1 = 1 by decide)) (by decide) (by decide), show Int32.toInt 1 = 1 from by decide]
            have bz666158 : gB z666158 (-2147483645) 16777216 := gB_add (gI_add hz666158 bg666145' (gBl (show Int32.toInt 1 = 1 by decide)) (by decide) (by decide)) bg666145' (gBl (show Int32.toInt 1 = 1 by decide)) (by decide) (by decide)
            refine G_istore (L' := [(8, .int z666158), (7, .int g666145), (6, .int z660235), (5, .int z660234), (0, .ref qs660224), (1, .int p660226), (2, .ref q660223), (3, .int p660227), (4, .int 0)]) dr_cJ1_indexOf_5af95_63 (Nat.le_of_ble_eq_true rfl) rfl ?_
            refine G_iload 0 dr_cJ1_indexOf_5af95_65 rfl ?_
            refine G_iload_n 7 dr_cJ1_indexOf_5af95_67 rfl ?_
            refine G_iadd dr_cJ1_indexOf_5af95_68 (G_nam fun z666159 hz666159 => ?_)
            have ez666159 : z666159.toInt = z666158.toInt + p660227.toInt := by rw [gI_add hz666159 bz666158 bp660227 (by decide) (by decide)]
            have bz666159 : gB z666159 (-2147483644) 33554432 := gB_add (gI_add hz666159 bz666158 bp660227 (by decide) (by decide)) bz666158 bp660227 (by decide) (by decide)
            refine G_iconst 1 dr_cJ1_indexOf_5af95_69 (by decide +kernel) ?_
            refine G_isub dr_cJ1_indexOf_5af95_70 (G_nam fun z666160 hz666160 => ?_)
            have ez666160 : z666160.toInt = z666159.toInt - 1 := by rw [gI_sub hz666160 bz666159 (gBl (show Int32.toInt 1 = 1 by decide)) (by decide) (by decide), show Int32.toInt 1 = 1 from by decide]
            have bz666160 : gB z666160 (-2147483645) 33554431 := gB_sub (gI_sub hz666160 bz666159 (gBl (show Int32.toInt 1 = 1 by decide)) (by decide) (by decide)) bz666159 (gBl (show Int32.toInt 1 = 1 by decide)) (by decide) (by decide)
            refine G_istore (L' := [(9, .int z666160), (8, .int z666158), (7, .int g666145), (6, .int z660235), (5, .int z660234), (0, .ref qs660224), (1, .int p660226), (2, .ref q660223), (3, .int p660227), (4, .int 0)]) dr_cJ1_indexOf_5af95_71 (Nat.le_of_ble_eq_true rfl) rfl ?_
            refine G_iconst 1 dr_cJ1_indexOf_5af95_73 (by decide +kernel) ?_
            refine G_istore (L' := [(10, .int 1), (9, .int z666160), (8, .int z666158), (7, .int g666145), (6, .int z660235), (5, .int z660234), (0, .ref qs660224), (1, .int p660226), (2, .ref q660223), (3, .int p660227), (4, .int 0)]) dr_cJ1_indexOf_5af95_74 (Nat.le_of_ble_eq_true rfl) rfl ?_
            have hlp76_666283 : ∀ (n76_666283 : Nat) (g666278 : Int32) (g666279 : Int32), gB g666278 1 16777217 → gB g666279 (-2147483645) 33554431 → 0 ≤ g666279.toInt → g666278.toInt = g666279.toInt - g666145.toInt → 1 ≤ g666278.toInt → g666279.toInt ≤ z666160.toInt → (∀ (k : Nat) (e1 : Int32), tl_RStringLatin1_indexOf2_76 z666160 bs660225 f660228 g666278 g666279 k e1 → tl_RStringLatin1_indexOf2_76 z666160 bs660225 f660228 (1 : Int32) z666158 k e1) → ((z666160.toInt : Int) + 2 - g666279.toInt).toNat < n76_666283 → G (gV D I) l (gRm 0 0 0 0) (gMA (gV D I) (pp_660233_StringLatin1_indexOf D I P660221 F660222 q660223 qs660224 bs660225 p660226 p660227 f660228 n660229) gNA 0 0) ky_660233_StringLatin1_indexOf 76 [(10, .int g666278), (9, .int z666160), (8, .int g666279), (7, .int g666145), (6, .int z660235), (5, .int z660234), (0, .ref qs660224), (1, .int p660226), (2, .ref q660223), (3, .int p660227), (4, .int 0)] [] (va_pl P660221 F660222) 0 0 := by
              intro n76_666283
              induction n76_666283 with
              | zero => intro g666278 g666279 bg666278 bg666279 x666280 x666281 x666282 x666283 kt76_666283 hm76_666283; exact absurd hm76_666283 (Nat.not_lt_zero _)
              | succ n76_666283 ih76_666283 =>
                intro g666278 g666279 bg666278 bg666279 x666280 x666281 x666282 x666283 kt76_666283 hm76_666283
                refine G_iload 2 dr_cJ1_indexOf_5af95_76 rfl ?_
                refine G_iload 1 dr_cJ1_indexOf_5af95_78 rfl ?_
                refine G_icmp_ge 103 dr_cJ1_indexOf_5af95_80 (by decide +kernel) (fun hc666284 => ?_) (fun hc666284 => ?_)
                · have r666285 : z666160.toInt ≤ g666279.toInt := gC_le hc666284
                  have hx666286 : tl_RStringLatin1_indexOf2_76 z666160 bs660225 f660228 (1 : Int32) z666158 103 g666279 := kt76_666283 103 g666279 (fun R c1 c2 c3 => c1 g666278 g666279 bg666278 bg666279 r666285)
                  refine G_iload 2 dr_cJ1_indexOf_5af95_103 rfl ?_
                  refine G_iload 1 dr_cJ1_indexOf_5af95_105 rfl ?_
                  refine G_icmp_ne 113 dr_cJ1_indexOf_5af95_107 (by decide +kernel) (fun hc666287 => ?_) (fun hc666287 => ?_)
                  · have r666288 : g666279.toInt ≠ z666160.toInt := gC_ne hc666287
                    obtain ⟨z666289, hz666289⟩ : ∃ z : Int32, z = g666145 + Int32.ofInt 1 := ⟨_, rfl⟩
                    have ez666289 : z666289.toInt = g666145.toInt + 1 := gI_inc hz666289 (by decide) bg666145' (by decide) (by decide)
                    have bz666289 : gB z666289 (-2147483645) 16777216 := ⟨by omega, by omega⟩
                    refine G_iinc (L' := [(7, .int z666289), (10, .int g666278), (9, .int z666160), (8, .int g666279), (6, .int z660235), (5, .int z660234), (0, .ref qs660224), (1, .int p660226), (2, .ref q660223), (3, .int p660227), (4, .int 0)]) z666289 3 dr_cJ1_indexOf_5af95_113 rfl hz666289.symm (Nat.le_of_ble_eq_true rfl) rfl ?_
                    refine G_goto 14 dr_cJ1_indexOf_5af95_116 (by decide +kernel) ?_
                    refine G_lv (L' := [(7, .int z666289), (6, .int z660235), (5, .int z660234), (0, .ref qs660224), (1, .int p660226), (2, .ref q660223), (3, .int p660227), (4, .int 0)]) [0, 4, 5, 6, 7, 8, 9, 10] rfl ?_
                    exact ih14_666146 z666289 (gB_w bz666289 (by decide) (by decide)) (by have qa0 : Int32.toInt 0 = 0 := (by decide); omega) (fun k e1 ht => kt14_666146 k e1 (fun R c1 c2 c3 c4 c5 c6 c7 c8 c9 => c3 g666145 z666151 z666158 z666159 z666160 g666279 z666289 k e1 bg666145 r666150 hz666151 r666153 r666157 ez666158 ez666159 ez666160 hx666286 r666288 ez666289 (ht R c1 c2 c3 c4 c5 c6 c7 c8 c9))) (by have qa0 : Int32.toInt 0 = 0 := (by decide); omega)
                  · have r666290 : g666279.toInt = z666160.toInt := gC_eq hc666287
                    have hx666291 : tl_RStringLatin1_indexOf2_14 z660235 bs660225 z660234 p660227 f660228 (0 : Int32) 110 g666145 := kt14_666146 110 g666145 (fun R c1 c2 c3 c4 c5 c6 c7 c8 c9 => c4 g666145 z666151 z666158 z666159 z666160 g666279 bg666145 r666150 hz666151 r666153 r666157 ez666158 ez666159 ez666160 hx666286 r666290)
                    refine G_iload 3 dr_cJ1_indexOf_5af95_110 rfl ?_
                    exact G_iretA dr_cJ1_indexOf_5af95_112 rfl (Nat.le_of_ble_eq_true rfl) (Nat.le_of_ble_eq_true rfl) ⟨g666145, rfl, rfl, (Nat.le_of_ble_eq_true rfl), (Nat.le_of_ble_eq_true rfl), bg666145', (by have qa0 : Int32.toInt 0 = 0 := (by decide); omega), (by first | exact ixP_of (by assumption) (by assumption) (by omega) | exact absurd (show False by omega) not_false), (fun R c1 c2 => c2 z660234 z660235 g666145 hz660234 bz660234 ez660235 hx666291)⟩
                · have r666292 : g666279.toInt < z666160.toInt := gC_nle hc666284
                  have bg666279' : gB g666279 (-2147483645) 33554430 := ⟨by omega, by omega⟩
                  have bz666160' : gB z666160 (-2147483644) 33554431 := ⟨by omega, by omega⟩
                  refine G_aload_n 6 dr_cJ1_indexOf_5af95_83 rfl ?_
                  refine G_iload 2 dr_cJ1_indexOf_5af95_84 rfl ?_
                  refine G_kbald (f := fun j => bs660225.getD j 0) dr_cJ1_indexOf_5af95_86 hbs660225 (gB_inr (by omega) (by omega)) (G_nam fun z666293 hz666293 => ?_)
                  have bz666293 : gB z666293 (-2147483648) 2147483647 := gB_any z666293
                  refine G_aload_n 8 dr_cJ1_indexOf_5af95_87 rfl ?_
                  refine G_iload 0 dr_cJ1_indexOf_5af95_88 rfl ?_
                  refine Gp_bald 1 hmq660223 heq660223 dr_cJ1_indexOf_5af95_90 rfl (gB_inr (by omega) (by omega)) (G_nam fun z666294 hz666294 => ?_)
                  have bz666294 : gB z666294 (-128) 127 := by rw [hz666294]; exact bf660228 _
                  refine G_icmp_ne 103 dr_cJ1_indexOf_5af95_91 (by decide +kernel) (fun hc666295 => ?_) (fun hc666295 => ?_)
                  · have r666296 : z666293.toInt ≠ z666294.toInt := gC_ne hc666295
                    have hx666297 : tl_RStringLatin1_indexOf2_76 z666160 bs660225 f660228 (1 : Int32) z666158 103 g666279 := kt76_666283 103 g666279 (fun R c1 c2 c3 => c2 g666278 g666279 z666293 z666294 bg666278 bg666279 r666292 hz666293 hz666294 bz666294 r666296)
                    refine G_iload 2 dr_cJ1_indexOf_5af95_103 rfl ?_
                    refine G_iload 1 dr_cJ1_indexOf_5af95_105 rfl ?_
                    refine G_icmp_ne 113 dr_cJ1_indexOf_5af95_107 (by decide +kernel) (fun hc666298 => ?_) (fun hc666298 => ?_)
                    · have r666299 : g666279.toInt ≠ z666160.toInt := gC_ne hc666298
                      obtain ⟨z666300, hz666300⟩ : ∃ z : Int32, z = g666145 + Int32.ofInt 1 := ⟨_, rfl⟩
                      have ez666300 : z666300.toInt = g666145.toInt + 1 := gI_inc hz666300 (by decide) bg666145' (by decide) (by decide)
                      have bz666300 : gB z666300 (-2147483645) 16777216 := ⟨by omega, by omega⟩
                      refine G_iinc (L' := [(7, .int z666300), (10, .int g666278), (9, .int z666160), (8, .int g666279), (6, .int z660235), (5, .int z660234), (0, .ref qs660224), (1, .int p660226), (2, .ref q660223), (3, .int p660227), (4, .int 0)]) z666300 3 dr_cJ1_indexOf_5af95_113 rfl hz666300.symm (Nat.le_of_ble_eq_true rfl) rfl ?_
                      refine G_goto 14 dr_cJ1_indexOf_5af95_116 (by decide +kernel) ?_
                      refine G_lv (L' := [(7, .int z666300), (6, .int z660235), (5, .int z660234), (0, .ref qs660224), (1, .int p660226), (2, .ref q660223), (3, .int p660227), (4, .int 0)]) [0, 4, 5, 6, 7, 8, 9, 10] rfl ?_
                      exact ih14_666146 z666300 (gB_w bz666300 (by decide) (by decide)) (by have qa0 : Int32.toInt 0 = 0 := (by decide); omega) (fun k e1 ht => kt14_666146 k e1 (fun R c1 c2 c3 c4 c5 c6 c7 c8 c9 => c3 g666145 z666151 z666158 z666159 z666160 g666279 z666300 k e1 bg666145 r666150 hz666151 r666153 r666157 ez666158 ez666159 ez666160 hx666297 r666299 ez666300 (ht R c1 c2 c3 c4 c5 c6 c7 c8 c9))) (by have qa0 : Int32.toInt 0 = 0 := (by decide); omega)
                    · have r666301 : g666279.toInt = z666160.toInt := gC_eq hc666298
                      have bg666279'' : gB g666279 (-2147483644) 33554430 := ⟨by omega, by omega⟩
                      have bz666160'' : gB z666160 (-2147483644) 33554430 := ⟨by omega, by omega⟩
                      have hx666302 : tl_RStringLatin1_indexOf2_14 z660235 bs660225 z660234 p660227 f660228 (0 : Int32) 110 g666145 := kt14_666146 110 g666145 (fun R c1 c2 c3 c4 c5 c6 c7 c8 c9 => c4 g666145 z666151 z666158 z666159 z666160 g666279 bg666145 r666150 hz666151 r666153 r666157 ez666158 ez666159 ez666160 hx666297 r666301)
                      refine G_iload 3 dr_cJ1_indexOf_5af95_110 rfl ?_
                      exact G_iretA dr_cJ1_indexOf_5af95_112 rfl (Nat.le_of_ble_eq_true rfl) (Nat.le_of_ble_eq_true rfl) ⟨g666145, rfl, rfl, (Nat.le_of_ble_eq_true rfl), (Nat.le_of_ble_eq_true rfl), bg666145', (by have qa0 : Int32.toInt 0 = 0 := (by decide); omega), (by first | exact ixP_of (by assumption) (by assumption) (by omega) | exact absurd (show False by omega) not_false), (fun R c1 c2 => c2 z660234 z660235 g666145 hz660234 bz660234 ez660235 hx666302)⟩
                  · have r666303 : z666293.toInt = z666294.toInt := gC_eq hc666295
                    have bz666293' : gB z666293 (-128) 127 := ⟨by omega, by omega⟩
                    obtain ⟨z666304, hz666304⟩ : ∃ z : Int32, z = g666279 + Int32.ofInt 1 := ⟨_, rfl⟩
                    have ez666304 : z666304.toInt = g666279.toInt + 1 := gI_inc hz666304 (by decide) bg666279' (by decide) (by decide)
                    have bz666304 : gB z666304 (-2147483644) 33554431 := ⟨by omega, by omega⟩
                    refine G_iinc (L' := [(8, .int z666304), (10, .int g666278), (9, .int z666160), (7, .int g666145), (6, .int z660235), (5, .int z660234), (0, .ref qs660224), (1, .int p660226), (2, .ref q660223), (3, .int p660227), (4, .int 0)]) z666304 2 dr_cJ1_indexOf_5af95_94 rfl hz666304.symm (Nat.le_of_ble_eq_true rfl) rfl ?_
                    have bg666278' : gB g666278 1 16777216 := ⟨by omega, by omega⟩
                    obtain ⟨z666305, hz666305⟩ : ∃ z : Int32, z = g666278 + Int32.ofInt 1 := ⟨_, rfl⟩
                    have ez666305 : z666305.toInt = g666278.toInt + 1 := gI_inc hz666305 (by decide) bg666278' (by decide) (by decide)
                    have bz666305 : gB z666305 2 16777217 := ⟨by omega, by omega⟩
                    refine G_iinc (L' := [(10, .int z666305), (8, .int z666304), (9, .int z666160), (7, .int g666145), (6, .int z660235), (5, .int z660234), (0, .ref qs660224), (1, .int p660226), (2, .ref q660223), (3, .int p660227), (4, .int 0)]) z666305 1 dr_cJ1_indexOf_5af95_97 rfl hz666305.symm (Nat.le_of_ble_eq_true rfl) rfl ?_
                    refine G_goto 76 dr_cJ1_indexOf_5af95_100 (by decide +kernel) ?_
                    refine G_lv (L' := [(10, .int z666305), (9, .int z666160), (8, .int z666304), (7, .int g666145), (6, .int z660235), (5, .int z660234), (0, .ref qs660224), (1, .int p660226), (2, .ref q660223), (3, .int p660227), (4, .int 0)]) [0, 2, 1, 3, 4, 5, 6, 7, 8, 9, 10] rfl ?_
                    exact ih76_666283 z666305 z666304 (gB_w bz666305 (by decide) (by decide)) (gB_w bz666304 (by decide) (by decide)) (by have qa0 : Int32.toInt 0 = 0 := (by decide); omega) (by have qa0 : Int32.toInt 0 = 0 := (by decide); omega) (by have qa0 : Int32.toInt 0 = 0 := (by decide); omega) (by have qa0 : Int32.toInt 0 = 0 := (by decide); omega) (fun k e1 ht => kt76_666283 k e1 (fun R c1 c2 c3 => c3 g666278 g666279 z666293 z666294 z666304 z666305 k e1 bg666278 bg666279 r666292 hz666293 hz666294 bz666294 r666303 ez666304 ez666305 (ht R c1 c2 c3))) (by have qa0 : Int32.toInt 0 = 0 := (by decide); omega)
            exact hlp76_666283 (((z666160.toInt : Int) + 2 - z666158.toInt).toNat + 1) 1 z666158 (gB_w (gBl (show Int32.toInt 1 = 1 by decide)) (by decide) (by decide)) (gB_w bz666158 (by decide) (by decide)) (by have qa0 : Int32.toInt 0 = 0 := (by decide); have qa1 : Int32.toInt 1 = 1 := (by decide); omega) (by have qa0 : Int32.toInt 0 = 0 := (by decide); have qa1 : Int32.toInt 1 = 1 := (by decide); omega) (by have qa0 : Int32.toInt 0 = 0 := (by decide); have qa1 : Int32.toInt 1 = 1 := (by decide); omega) (by have qa0 : Int32.toInt 0 = 0 := (by decide); have qa1 : Int32.toInt 1 = 1 := (by decide); omega) (fun k e1 ht => ht) (Nat.lt_succ_self _)
        · have r666306 : z666151.toInt ≠ z660234.toInt := gC_ne hc666152
          have hlp30_666918 : ∀ (n30_666918 : Nat) (g666916 : Int32), gB g666916 (-2147483646) 16777215 → 0 ≤ g666916.toInt → g666145.toInt ≤ g666916.toInt → (∀ (k : Nat) (e1 : Int32), tl_RStringLatin1_indexOf2_30 z660235 bs660225 z660234 g666916 k e1 → tl_RStringLatin1_indexOf2_30 z660235 bs660225 z660234 g666145 k e1) → ((z660235.toInt : Int) + 2 - g666916.toInt).toNat < n30_666918 → G (gV D I) l (gRm 0 0 0 0) (gMA (gV D I) (pp_660233_StringLatin1_indexOf D I P660221 F660222 q660223 qs660224 bs660225 p660226 p660227 f660228 n660229) gNA 0 0) ky_660233_StringLatin1_indexOf 30 [(7, .int g666916), (6, .int z660235), (5, .int z660234), (0, .ref qs660224), (1, .int p660226), (2, .ref q660223), (3, .int p660227), (4, .int 0)] [] (va_pl P660221 F660222) 0 0 := by
            intro n30_666918
            induction n30_666918 with
            | zero => intro g666916 bg666916 x666917 x666918 kt30_666918 hm30_666918; exact absurd hm30_666918 (Nat.not_lt_zero _)
            | succ n30_666918 ih30_666918 =>
              intro g666916 bg666916 x666917 x666918 kt30_666918 hm30_666918
              obtain ⟨z666919, hz666919⟩ : ∃ z : Int32, z = g666916 + Int32.ofInt 1 := ⟨_, rfl⟩
              have ez666919 : z666919.toInt = g666916.toInt + 1 := gI_inc hz666919 (by decide) bg666916 (by decide) (by decide)
              have bz666919 : gB z666919 (-2147483645) 16777216 := ⟨by omega, by omega⟩
              refine G_iinc (L' := [(7, .int z666919), (6, .int z660235), (5, .int z660234), (0, .ref qs660224), (1, .int p660226), (2, .ref q660223), (3, .int p660227), (4, .int 0)]) z666919 0 dr_cJ1_indexOf_5af95_30 rfl hz666919.symm (Nat.le_of_ble_eq_true rfl) rfl ?_
              refine G_iload 0 dr_cJ1_indexOf_5af95_33 rfl ?_
              refine G_iload 1 dr_cJ1_indexOf_5af95_35 rfl ?_
              refine G_icmp_gt 52 dr_cJ1_indexOf_5af95_37 (by decide +kernel) (fun hc666920 => ?_) (fun hc666920 => ?_)
              · have r666921 : z660235.toInt < z666919.toInt := gC_lt hc666920
                have bz666919' : gB z666919 (-16777215) 16777216 := ⟨by omega, by omega⟩
                have hx666922 : tl_RStringLatin1_indexOf2_30 z660235 bs660225 z660234 g666145 52 z666919 := kt30_666918 52 z666919 (fun R c1 c2 c3 => c1 g666916 z666919 bg666916 ez666919 r666921)
                refine G_iload 0 dr_cJ1_indexOf_5af95_52 rfl ?_
                refine G_iload 1 dr_cJ1_indexOf_5af95_54 rfl ?_
                refine G_icmp_gt 113 dr_cJ1_indexOf_5af95_56 (by decide +kernel) (fun hc666923 => ?_) (fun hc666923 => ?_)
                · have r666924 : z660235.toInt < z666919.toInt := gC_lt hc666923
                  obtain ⟨z666925, hz666925⟩ : ∃ z : Int32, z = z666919 + Int32.ofInt 1 := ⟨_, rfl⟩
                  have ez666925 : z666925.toInt = z666919.toInt + 1 := gI_inc hz666925 (by decide) bz666919' (by decide) (by decide)
                  have bz666925 : gB z666925 (-16777214) 16777217 := ⟨by omega, by omega⟩
                  refine G_iinc (L' := [(7, .int z666925), (6, .int z660235), (5, .int z660234), (0, .ref qs660224), (1, .int p660226), (2, .ref q660223), (3, .int p660227), (4, .int 0)]) z666925 0 dr_cJ1_indexOf_5af95_113 rfl hz666925.symm (Nat.le_of_ble_eq_true rfl) rfl ?_
                  refine G_goto 14 dr_cJ1_indexOf_5af95_116 (by decide +kernel) ?_
                  exact ih14_666146 z666925 (gB_w bz666925 (by decide) (by decide)) (by have qa0 : Int32.toInt 0 = 0 := (by decide); omega) (fun k e1 ht => kt14_666146 k e1 (fun R c1 c2 c3 c4 c5 c6 c7 c8 c9 => c5 g666145 z666151 z666919 z666925 k e1 bg666145 r666150 hz666151 r666306 hx666922 r666924 ez666925 (ht R c1 c2 c3 c4 c5 c6 c7 c8 c9))) (by have qa0 : Int32.toInt 0 = 0 := (by decide); omega)
                · have r666926 : z666919.toInt ≤ z660235.toInt := gC_nlt hc666923
                  have bz666919'' : gB z666919 (-16777215) 16777215 := ⟨by omega, by omega⟩
                  have bz660235' : gB z660235 (-16777215) 16777215 := ⟨by omega, by omega⟩
                  refine G_iload 0 dr_cJ1_indexOf_5af95_59 rfl ?_
                  refine G_iconst 1 dr_cJ1_indexOf_5af95_61 (by decide +kernel) ?_
                  refine G_iadd dr_cJ1_indexOf_5af95_62 (G_nam fun z666927 hz666927 => ?_)
                  have ez666927 : z666927.toInt = z666919.toInt + 1 := by rw [gI_add hz666927 bz666919'' (gBl (show Int32.toInt 1 = 1 by decide)) (by decide) (by decide), show Int32.toInt 1 = 1 from by decide]
                  have bz666927 : gB z666927 (-16777214) 16777216 := gB_add (gI_add hz666927 bz666919'' (gBl (show Int32.toInt 1 = 1 by decide)) (by decide) (by decide)) bz666919'' (gBl (show Int32.toInt 1 = 1 by decide)) (by decide) (by decide)
                  refine G_istore (L' := [(8, .int z666927), (7, .int z666919), (6, .int z660235), (5, .int z660234), (0, .ref qs660224), (1, .int p660226), (2, .ref q660223), (3, .int p660227), (4, .int 0)]) dr_cJ1_indexOf_5af95_63 (Nat.le_of_ble_eq_true rfl) rfl ?_
                  refine G_iload 0 dr_cJ1_indexOf_5af95_65 rfl ?_
                  refine G_iload_n 7 dr_cJ1_indexOf_5af95_67 rfl ?_
                  refine G_iadd dr_cJ1_indexOf_5af95_68 (G_nam fun z666928 hz666928 => ?_)
                  have ez666928 : z666928.toInt = z666927.toInt + p660227.toInt := by rw [gI_add hz666928 bz666927 bp660227 (by decide) (by decide)]
                  have bz666928 : gB z666928 (-16777213) 33554432 := gB_add (gI_add hz666928 bz666927 bp660227 (by decide) (by decide)) bz666927 bp660227 (by decide) (by decide)
                  refine G_iconst 1 dr_cJ1_indexOf_5af95_69 (by decide +kernel) ?_
                  refine G_isub dr_cJ1_indexOf_5af95_70 (G_nam fun z666929 hz666929 => ?_)
                  have ez666929 : z666929.toInt = z666928.toInt - 1 := by rw [gI_sub hz666929 bz666928 (gBl (show Int32.toInt 1 = 1 by decide)) (by decide) (by decide), show Int32.toInt 1 = 1 from by decide]
                  have bz666929 : gB z666929 (-16777214) 33554431 := gB_sub (gI_sub hz666929 bz666928 (gBl (show Int32.toInt 1 = 1 by decide)) (by decide) (by decide)) bz666928 (gBl (show Int32.toInt 1 = 1 by decide)) (by decide) (by decide)
                  refine G_istore (L' := [(9, .int z666929), (8, .int z666927), (7, .int z666919), (6, .int z660235), (5, .int z660234), (0, .ref qs660224), (1, .int p660226), (2, .ref q660223), (3, .int p660227), (4, .int 0)]) dr_cJ1_indexOf_5af95_71 (Nat.le_of_ble_eq_true rfl) rfl ?_
                  refine G_iconst 1 dr_cJ1_indexOf_5af95_73 (by decide +kernel) ?_
                  refine G_istore (L' := [(10, .int 1), (9, .int z666929), (8, .int z666927), (7, .int z666919), (6, .int z660235), (5, .int z660234), (0, .ref qs660224), (1, .int p660226), (2, .ref q660223), (3, .int p660227), (4, .int 0)]) dr_cJ1_indexOf_5af95_74 (Nat.le_of_ble_eq_true rfl) rfl ?_
                  have hlp76_667052 : ∀ (n76_667052 : Nat) (g667047 : Int32) (g667048 : Int32), gB g667047 1 16777217 → gB g667048 (-16777214) 33554431 → 0 ≤ g667048.toInt → g667047.toInt = g667048.toInt - z666919.toInt → 1 ≤ g667047.toInt → g667048.toInt ≤ z666929.toInt → (∀ (k : Nat) (e1 : Int32), tl_RStringLatin1_indexOf2_76_2 z666929 bs660225 f660228 g667047 g667048 k e1 → tl_RStringLatin1_indexOf2_76_2 z666929 bs660225 f660228 (1 : Int32) z666927 k e1) → ((z666929.toInt : Int) + 2 - g667048.toInt).toNat < n76_667052 → G (gV D I) l (gRm 0 0 0 0) (gMA (gV D I) (pp_660233_StringLatin1_indexOf D I P660221 F660222 q660223 qs660224 bs660225 p660226 p660227 f660228 n660229) gNA 0 0) ky_660233_StringLatin1_indexOf 76 [(10, .int g667047), (9, .int z666929), (8, .int g667048), (7, .int z666919), (6, .int z660235), (5, .int z660234), (0, .ref qs660224), (1, .int p660226), (2, .ref q660223), (3, .int p660227), (4, .int 0)] [] (va_pl P660221 F660222) 0 0 := by
                    intro n76_667052
                    induction n76_667052 with
                    | zero => intro g667047 g667048 bg667047 bg667048 x667049 x667050 x667051 x667052 kt76_667052 hm76_667052; exact absurd hm76_667052 (Nat.not_lt_zero _)
                    | succ n76_667052 ih76_667052 =>
                      intro g667047 g667048 bg667047 bg667048 x667049 x667050 x667051 x667052 kt76_667052 hm76_667052
                      refine G_iload 2 dr_cJ1_indexOf_5af95_76 rfl ?_
                      refine G_iload 1 dr_cJ1_indexOf_5af95_78 rfl ?_
                      refine G_icmp_ge 103 dr_cJ1_indexOf_5af95_80 (by decide +kernel) (fun hc667053 => ?_) (fun hc667053 => ?_)
                      · have r667054 : z666929.toInt ≤ g667048.toInt := gC_le hc667053
                        have hx667055 : tl_RStringLatin1_indexOf2_76_2 z666929 bs660225 f660228 (1 : Int32) z666927 103 g667048 := kt76_667052 103 g667048 (fun R c1 c2 c3 => c1 g667047 g667048 bg667047 bg667048 r667054)
                        refine G_iload 2 dr_cJ1_indexOf_5af95_103 rfl ?_
                        refine G_iload 1 dr_cJ1_indexOf_5af95_105 rfl ?_
                        refine G_icmp_ne 113 dr_cJ1_indexOf_5af95_107 (by decide +kernel) (fun hc667056 => ?_) (fun hc667056 => ?_)
                        · have r667057 : g667048.toInt ≠ z666929.toInt := gC_ne hc667056
                          obtain ⟨z667058, hz667058⟩ : ∃ z : Int32, z = z666919 + Int32.ofInt 1 := ⟨_, rfl⟩
                          have ez667058 : z667058.toInt = z666919.toInt + 1 := gI_inc hz667058 (by decide) bz666919'' (by decide) (by decide)
                          have bz667058 : gB z667058 (-16777214) 16777216 := ⟨by omega, by omega⟩
                          refine G_iinc (L' := [(7, .int z667058), (10, .int g667047), (9, .int z666929), (8, .int g667048), (6, .int z660235), (5, .int z660234), (0, .ref qs660224), (1, .int p660226), (2, .ref q660223), (3, .int p660227), (4, .int 0)]) z667058 3 dr_cJ1_indexOf_5af95_113 rfl hz667058.symm (Nat.le_of_ble_eq_true rfl) rfl ?_
                          refine G_goto 14 dr_cJ1_indexOf_5af95_116 (by decide +kernel) ?_
                          refine G_lv (L' := [(7, .int z667058), (6, .int z660235), (5, .int z660234), (0, .ref qs660224), (1, .int p660226), (2, .ref q660223), (3, .int p660227), (4, .int 0)]) [0, 4, 5, 6, 7, 8, 9, 10] rfl ?_
                          exact ih14_666146 z667058 (gB_w bz667058 (by decide) (by decide)) (by have qa0 : Int32.toInt 0 = 0 := (by decide); omega) (fun k e1 ht => kt14_666146 k e1 (fun R c1 c2 c3 c4 c5 c6 c7 c8 c9 => c6 g666145 z666151 z666919 z666927 z666928 z666929 g667048 z667058 k e1 bg666145 r666150 hz666151 r666306 hx666922 r666926 ez666927 ez666928 ez666929 hx667055 r667057 ez667058 (ht R c1 c2 c3 c4 c5 c6 c7 c8 c9))) (by have qa0 : Int32.toInt 0 = 0 := (by decide); omega)
                        · have r667059 : g667048.toInt = z666929.toInt := gC_eq hc667056
                          have hx667060 : tl_RStringLatin1_indexOf2_14 z660235 bs660225 z660234 p660227 f660228 (0 : Int32) 110 z666919 := kt14_666146 110 z666919 (fun R c1 c2 c3 c4 c5 c6 c7 c8 c9 => c7 g666145 z666151 z666919 z666927 z666928 z666929 g667048 bg666145 r666150 hz666151 r666306 hx666922 r666926 ez666927 ez666928 ez666929 hx667055 r667059)
                          refine G_iload 3 dr_cJ1_indexOf_5af95_110 rfl ?_
                          exact G_iretA dr_cJ1_indexOf_5af95_112 rfl (Nat.le_of_ble_eq_true rfl) (Nat.le_of_ble_eq_true rfl) ⟨z666919, rfl, rfl, (Nat.le_of_ble_eq_true rfl), (Nat.le_of_ble_eq_true rfl), (gB_w bz666919'' (by decide) (by decide)), (by have qa0 : Int32.toInt 0 = 0 := (by decide); omega), (by first | exact ixP_of (by assumption) (by assumption) (by omega) | exact absurd (show False by omega) not_false), (fun R c1 c2 => c2 z660234 z660235 z666919 hz660234 bz660234 ez660235 hx667060)⟩
                      · have r667061 : g667048.toInt < z666929.toInt := gC_nle hc667053
                        have bg667048' : gB g667048 (-16777214) 33554430 := ⟨by omega, by omega⟩
                        have bz666929' : gB z666929 (-16777213) 33554431 := ⟨by omega, by omega⟩
                        refine G_aload_n 6 dr_cJ1_indexOf_5af95_83 rfl ?_
                        refine G_iload 2 dr_cJ1_indexOf_5af95_84 rfl ?_
                        refine G_kbald (f := fun j => bs660225.getD j 0) dr_cJ1_indexOf_5af95_86 hbs660225 (gB_inr (by omega) (by omega)) (G_nam fun z667062 hz667062 => ?_)
                        have bz667062 : gB z667062 (-2147483648) 2147483647 := gB_any z667062
                        refine G_aload_n 8 dr_cJ1_indexOf_5af95_87 rfl ?_
                        refine G_iload 0 dr_cJ1_indexOf_5af95_88 rfl ?_
                        refine Gp_bald 1 hmq660223 heq660223 dr_cJ1_indexOf_5af95_90 rfl (gB_inr (by omega) (by omega)) (G_nam fun z667063 hz667063 => ?_)
                        have bz667063 : gB z667063 (-128) 127 := by rw [hz667063]; exact bf660228 _
                        refine G_icmp_ne 103 dr_cJ1_indexOf_5af95_91 (by decide +kernel) (fun hc667064 => ?_) (fun hc667064 => ?_)
                        · have r667065 : z667062.toInt ≠ z667063.toInt := gC_ne hc667064
                          have hx667066 : tl_RStringLatin1_indexOf2_76_2 z666929 bs660225 f660228 (1 : Int32) z666927 103 g667048 := kt76_667052 103 g667048 (fun R c1 c2 c3 => c2 g667047 g667048 z667062 z667063 bg667047 bg667048 r667061 hz667062 hz667063 bz667063 r667065)
                          refine G_iload 2 dr_cJ1_indexOf_5af95_103 rfl ?_
                          refine G_iload 1 dr_cJ1_indexOf_5af95_105 rfl ?_
                          refine G_icmp_ne 113 dr_cJ1_indexOf_5af95_107 (by decide +kernel) (fun hc667067 => ?_) (fun hc667067 => ?_)
                          · have r667068 : g667048.toInt ≠ z666929.toInt := gC_ne hc667067
                            obtain ⟨z667069, hz667069⟩ : ∃ z : Int32, z = z666919 + Int32.ofInt 1 := ⟨_, rfl⟩
                            have ez667069 : z667069.toInt = z666919.toInt + 1 := gI_inc hz667069 (by decide) bz666919'' (by decide) (by decide)
                            have bz667069 : gB z667069 (-16777214) 16777216 := ⟨by omega, by omega⟩
                            refine G_iinc (L' := [(7, .int z667069), (10, .int g667047), (9, .int z666929), (8, .int g667048), (6, .int z660235), (5, .int z660234), (0, .ref qs660224), (1, .int p660226), (2, .ref q660223), (3, .int p660227), (4, .int 0)]) z667069 3 dr_cJ1_indexOf_5af95_113 rfl hz667069.symm (Nat.le_of_ble_eq_true rfl) rfl ?_
                            refine G_goto 14 dr_cJ1_indexOf_5af95_116 (by decide +kernel) ?_
                            refine G_lv (L' := [(7, .int z667069), (6, .int z660235), (5, .int z660234), (0, .ref qs660224), (1, .int p660226), (2, .ref q660223), (3, .int p660227), (4, .int 0)]) [0, 4, 5, 6, 7, 8, 9, 10] rfl ?_
                            exact ih14_666146 z667069 (gB_w bz667069 (by decide) (by decide)) (by have qa0 : Int32.toInt 0 = 0 := (by decide); omega) (fun k e1 ht => kt14_666146 k e1 (fun R c1 c2 c3 c4 c5 c6 c7 c8 c9 => c6 g666145 z666151 z666919 z666927 z666928 z666929 g667048 z667069 k e1 bg666145 r666150 hz666151 r666306 hx666922 r666926 ez666927 ez666928 ez666929 hx667066 r667068 ez667069 (ht R c1 c2 c3 c4 c5 c6 c7 c8 c9))) (by have qa0 : Int32.toInt 0 = 0 := (by decide); omega)
                          · have r667070 : g667048.toInt = z666929.toInt := gC_eq hc667067
                            have bg667048'' : gB g667048 (-16777213) 33554430 := ⟨by omega, by omega⟩
                            have bz666929'' : gB z666929 (-16777213) 33554430 := ⟨by omega, by omega⟩
                            have hx667071 : tl_RStringLatin1_indexOf2_14 z660235 bs660225 z660234 p660227 f660228 (0 : Int32) 110 z666919 := kt14_666146 110 z666919 (fun R c1 c2 c3 c4 c5 c6 c7 c8 c9 => c7 g666145 z666151 z666919 z666927 z666928 z666929 g667048 bg666145 r666150 hz666151 r666306 hx666922 r666926 ez666927 ez666928 ez666929 hx667066 r667070)
                            refine G_iload 3 dr_cJ1_indexOf_5af95_110 rfl ?_
                            exact G_iretA dr_cJ1_indexOf_5af95_112 rfl (Nat.le_of_ble_eq_true rfl) (Nat.le_of_ble_eq_true rfl) ⟨z666919, rfl, rfl, (Nat.le_of_ble_eq_true rfl), (Nat.le_of_ble_eq_true rfl), (gB_w bz666919'' (by decide) (by decide)), (by have qa0 : Int32.toInt 0 = 0 := (by decide); omega), (by first | exact ixP_of (by assumption) (by assumption) (by omega) | exact absurd (show False by omega) not_false), (fun R c1 c2 => c2 z660234 z660235 z666919 hz660234 bz660234 ez660235 hx667071)⟩
                        · have r667072 : z667062.toInt = z667063.toInt := gC_eq hc667064
                          have bz667062' : gB z667062 (-128) 127 := ⟨by omega, by omega⟩
                          obtain ⟨z667073, hz667073⟩ : ∃ z : Int32, z = g667048 + Int32.ofInt 1 := ⟨_, rfl⟩
                          have ez667073 : z667073.toInt = g667048.toInt + 1 := gI_inc hz667073 (by decide) bg667048' (by decide) (by decide)
                          have bz667073 : gB z667073 (-16777213) 33554431 := ⟨by omega, by omega⟩
                          refine G_iinc (L' := [(8, .int z667073), (10, .int g667047), (9, .int z666929), (7, .int z666919), (6, .int z660235), (5, .int z660234), (0, .ref qs660224), (1, .int p660226), (2, .ref q660223), (3, .int p660227), (4, .int 0)]) z667073 2 dr_cJ1_indexOf_5af95_94 rfl hz667073.symm (Nat.le_of_ble_eq_true rfl) rfl ?_
                          have bg667047' : gB g667047 1 16777216 := ⟨by omega, by omega⟩
                          obtain ⟨z667074, hz667074⟩ : ∃ z : Int32, z = g667047 + Int32.ofInt 1 := ⟨_, rfl⟩
                          have ez667074 : z667074.toInt = g667047.toInt + 1 := gI_inc hz667074 (by decide) bg667047' (by decide) (by decide)
                          have bz667074 : gB z667074 2 16777217 := ⟨by omega, by omega⟩
                          refine G_iinc (L' := [(10, .int z667074), (8, .int z667073), (9, .int z666929), (7, .int z666919), (6, .int z660235), (5, .int z660234), (0, .ref qs660224), (1, .int p660226), (2, .ref q660223), (3, .int p660227), (4, .int 0)]) z667074 1 dr_cJ1_indexOf_5af95_97 rfl hz667074.symm (Nat.le_of_ble_eq_true rfl) rfl ?_
                          refine G_goto 76 dr_cJ1_indexOf_5af95_100 (by decide +kernel) ?_
                          refine G_lv (L' := [(10, .int z667074), (9, .int z666929), (8, .int z667073), (7, .int z666919), (6, .int z660235), (5, .int z660234), (0, .ref qs660224), (1, .int p660226), (2, .ref q660223), (3, .int p660227), (4, .int 0)]) [0, 2, 1, 3, 4, 5, 6, 7, 8, 9, 10] rfl ?_
                          exact ih76_667052 z667074 z667073 (gB_w bz667074 (by decide) (by decide)) (gB_w bz667073 (by decide) (by decide)) (by have qa0 : Int32.toInt 0 = 0 := (by decide); omega) (by have qa0 : Int32.toInt 0 = 0 := (by decide); omega) (by have qa0 : Int32.toInt 0 = 0 := (by decide); omega) (by have qa0 : Int32.toInt 0 = 0 := (by decide); omega) (fun k e1 ht => kt76_667052 k e1 (fun R c1 c2 c3 => c3 g667047 g667048 z667062 z667063 z667073 z667074 k e1 bg667047 bg667048 r667061 hz667062 hz667063 bz667063 r667072 ez667073 ez667074 (ht R c1 c2 c3))) (by have qa0 : Int32.toInt 0 = 0 := (by decide); omega)
                  exact hlp76_667052 (((z666929.toInt : Int) + 2 - z666927.toInt).toNat + 1) 1 z666927 (gB_w (gBl (show Int32.toInt 1 = 1 by decide)) (by decide) (by decide)) (gB_w bz666927 (by decide) (by decide)) (by have qa0 : Int32.toInt 0 = 0 := (by decide); have qa1 : Int32.toInt 1 = 1 := (by decide); omega) (by have qa0 : Int32.toInt 0 = 0 := (by decide); have qa1 : Int32.toInt 1 = 1 := (by decide); omega) (by have qa0 : Int32.toInt 0 = 0 := (by decide); have qa1 : Int32.toInt 1 = 1 := (by decide); omega) (by have qa0 : Int32.toInt 0 = 0 := (by decide); have qa1 : Int32.toInt 1 = 1 := (by decide); omega) (fun k e1 ht => ht) (Nat.lt_succ_self _)
              · have r667075 : z666919.toInt ≤ z660235.toInt := gC_nlt hc666920
                have bz666919' : gB z666919 (-2147483645) 16777215 := ⟨by omega, by omega⟩
                refine G_aload_n 3 dr_cJ1_indexOf_5af95_40 rfl ?_
                refine G_iload 0 dr_cJ1_indexOf_5af95_41 rfl ?_
                refine G_kbald (f := fun j => bs660225.getD j 0) dr_cJ1_indexOf_5af95_43 hbs660225 (gB_inr (by omega) (by omega)) (G_nam fun z667076 hz667076 => ?_)
                have bz667076 : gB z667076 (-2147483648) 2147483647 := gB_any z667076
                refine G_iload 2 dr_cJ1_indexOf_5af95_44 rfl ?_
                refine G_icmp_eq 52 dr_cJ1_indexOf_5af95_46 (by decide +kernel) (fun hc667077 => ?_) (fun hc667077 => ?_)
                · have r667078 : z667076.toInt = z660234.toInt := gC_eq hc667077
                  have bz667076' : gB z667076 (-128) 127 := ⟨by omega, by omega⟩
                  have hx667079 : tl_RStringLatin1_indexOf2_30 z660235 bs660225 z660234 g666145 52 z666919 := kt30_666918 52 z666919 (fun R c1 c2 c3 => c2 g666916 z666919 z667076 bg666916 ez666919 r667075 hz667076 r667078)
                  refine G_iload 0 dr_cJ1_indexOf_5af95_52 rfl ?_
                  refine G_iload 1 dr_cJ1_indexOf_5af95_54 rfl ?_
                  refine G_icmp_gt 113 dr_cJ1_indexOf_5af95_56 (by decide +kernel) (fun hc667080 => ?_) (fun hc667080 => ?_)
                  · have r667081 : z660235.toInt < z666919.toInt := gC_lt hc667080
                    have bz660235' : gB z660235 (-16777216) 16777214 := ⟨by omega, by omega⟩
                    have bz666919'' : gB z666919 (-16777215) 16777215 := ⟨by omega, by omega⟩
                    obtain ⟨z667082, hz667082⟩ : ∃ z : Int32, z = z666919 + Int32.ofInt 1 := ⟨_, rfl⟩
                    have ez667082 : z667082.toInt = z666919.toInt + 1 := gI_inc hz667082 (by decide) bz666919'' (by decide) (by decide)
                    have bz667082 : gB z667082 (-16777214) 16777216 := ⟨by omega, by omega⟩
                    refine G_iinc (L' := [(7, .int z667082), (6, .int z660235), (5, .int z660234), (0, .ref qs660224), (1, .int p660226), (2, .ref q660223), (3, .int p660227), (4, .int 0)]) z667082 0 dr_cJ1_indexOf_5af95_113 rfl hz667082.symm (Nat.le_of_ble_eq_true rfl) rfl ?_
                    refine G_goto 14 dr_cJ1_indexOf_5af95_116 (by decide +kernel) ?_
                    exact ih14_666146 z667082 (gB_w bz667082 (by decide) (by decide)) (by have qa0 : Int32.toInt 0 = 0 := (by decide); omega) (fun k e1 ht => kt14_666146 k e1 (fun R c1 c2 c3 c4 c5 c6 c7 c8 c9 => c5 g666145 z666151 z666919 z667082 k e1 bg666145 r666150 hz666151 r666306 hx667079 r667081 ez667082 (ht R c1 c2 c3 c4 c5 c6 c7 c8 c9))) (by have qa0 : Int32.toInt 0 = 0 := (by decide); omega)
                  · have r667083 : z666919.toInt ≤ z660235.toInt := gC_nlt hc667080
                    refine G_iload 0 dr_cJ1_indexOf_5af95_59 rfl ?_
                    refine G_iconst 1 dr_cJ1_indexOf_5af95_61 (by decide +kernel) ?_
                    refine G_iadd dr_cJ1_indexOf_5af95_62 (G_nam fun z667084 hz667084 => ?_)
                    have ez667084 : z667084.toInt = z666919.toInt + 1 := by rw [gI_add hz667084 bz666919' (gBl (show Int32.toInt 1 = 1 by decide)) (by decide) (by decide), show Int32.toInt 1 = 1 from by decide]
                    have bz667084 : gB z667084 (-2147483644) 16777216 := gB_add (gI_add hz667084 bz666919' (gBl (show Int32.toInt 1 = 1 by decide)) (by decide) (by decide)) bz666919' (gBl (show Int32.toInt 1 = 1 by decide)) (by decide) (by decide)
                    refine G_istore (L' := [(8, .int z667084), (7, .int z666919), (6, .int z660235), (5, .int z660234), (0, .ref qs660224), (1, .int p660226), (2, .ref q660223), (3, .int p660227), (4, .int 0)]) dr_cJ1_indexOf_5af95_63 (Nat.le_of_ble_eq_true rfl) rfl ?_
                    refine G_iload 0 dr_cJ1_indexOf_5af95_65 rfl ?_
                    refine G_iload_n 7 dr_cJ1_indexOf_5af95_67 rfl ?_
                    refine G_iadd dr_cJ1_indexOf_5af95_68 (G_nam fun z667085 hz667085 => ?_)
                    have ez667085 : z667085.toInt = z667084.toInt + p660227.toInt := by rw [gI_add hz667085 bz667084 bp660227 (by decide) (by decide)]
                    have bz667085 : gB z667085 (-2147483643) 33554432 := gB_add (gI_add hz667085 bz667084 bp660227 (by decide) (by decide)) bz667084 bp660227 (by decide) (by decide)
                    refine G_iconst 1 dr_cJ1_indexOf_5af95_69 (by decide +kernel) ?_
                    refine G_isub dr_cJ1_indexOf_5af95_70 (G_nam fun z667086 hz667086 => ?_)
                    have ez667086 : z667086.toInt = z667085.toInt - 1 := by rw [gI_sub hz667086 bz667085 (gBl (show Int32.toInt 1 = 1 by decide)) (by decide) (by decide), show Int32.toInt 1 = 1 from by decide]
                    have bz667086 : gB z667086 (-2147483644) 33554431 := gB_sub (gI_sub hz667086 bz667085 (gBl (show Int32.toInt 1 = 1 by decide)) (by decide) (by decide)) bz667085 (gBl (show Int32.toInt 1 = 1 by decide)) (by decide) (by decide)
                    refine G_istore (L' := [(9, .int z667086), (8, .int z667084), (7, .int z666919), (6, .int z660235), (5, .int z660234), (0, .ref qs660224), (1, .int p660226), (2, .ref q660223), (3, .int p660227), (4, .int 0)]) dr_cJ1_indexOf_5af95_71 (Nat.le_of_ble_eq_true rfl) rfl ?_
                    refine G_iconst 1 dr_cJ1_indexOf_5af95_73 (by decide +kernel) ?_
                    refine G_istore (L' := [(10, .int 1), (9, .int z667086), (8, .int z667084), (7, .int z666919), (6, .int z660235), (5, .int z660234), (0, .ref qs660224), (1, .int p660226), (2, .ref q660223), (3, .int p660227), (4, .int 0)]) dr_cJ1_indexOf_5af95_74 (Nat.le_of_ble_eq_true rfl) rfl ?_
                    have hlp76_667209 : ∀ (n76_667209 : Nat) (g667204 : Int32) (g667205 : Int32), gB g667204 1 16777217 → gB g667205 (-2147483644) 33554431 → 0 ≤ g667205.toInt → g667204.toInt = g667205.toInt - z666919.toInt → 1 ≤ g667204.toInt → g667205.toInt ≤ z667086.toInt → (∀ (k : Nat) (e1 : Int32), tl_RStringLatin1_indexOf2_76_3 z667086 bs660225 f660228 g667204 g667205 k e1 → tl_RStringLatin1_indexOf2_76_3 z667086 bs660225 f660228 (1 : Int32) z667084 k e1) → ((z667086.toInt : Int) + 2 - g667205.toInt).toNat < n76_667209 → G (gV D I) l (gRm 0 0 0 0) (gMA (gV D I) (pp_660233_StringLatin1_indexOf D I P660221 F660222 q660223 qs660224 bs660225 p660226 p660227 f660228 n660229) gNA 0 0) ky_660233_StringLatin1_indexOf 76 [(10, .int g667204), (9, .int z667086), (8, .int g667205), (7, .int z666919), (6, .int z660235), (5, .int z660234), (0, .ref qs660224), (1, .int p660226), (2, .ref q660223), (3, .int p660227), (4, .int 0)] [] (va_pl P660221 F660222) 0 0 := by
                      intro n76_667209
                      induction n76_667209 with
                      | zero => intro g667204 g667205 bg667204 bg667205 x667206 x667207 x667208 x667209 kt76_667209 hm76_667209; exact absurd hm76_667209 (Nat.not_lt_zero _)
                      | succ n76_667209 ih76_667209 =>
                        intro g667204 g667205 bg667204 bg667205 x667206 x667207 x667208 x667209 kt76_667209 hm76_667209
                        refine G_iload 2 dr_cJ1_indexOf_5af95_76 rfl ?_
                        refine G_iload 1 dr_cJ1_indexOf_5af95_78 rfl ?_
                        refine G_icmp_ge 103 dr_cJ1_indexOf_5af95_80 (by decide +kernel) (fun hc667210 => ?_) (fun hc667210 => ?_)
                        · have r667211 : z667086.toInt ≤ g667205.toInt := gC_le hc667210
                          have hx667212 : tl_RStringLatin1_indexOf2_76_3 z667086 bs660225 f660228 (1 : Int32) z667084 103 g667205 := kt76_667209 103 g667205 (fun R c1 c2 c3 => c1 g667204 g667205 bg667204 bg667205 r667211)
                          refine G_iload 2 dr_cJ1_indexOf_5af95_103 rfl ?_
                          refine G_iload 1 dr_cJ1_indexOf_5af95_105 rfl ?_
                          refine G_icmp_ne 113 dr_cJ1_indexOf_5af95_107 (by decide +kernel) (fun hc667213 => ?_) (fun hc667213 => ?_)
                          · have r667214 : g667205.toInt ≠ z667086.toInt := gC_ne hc667213
                            obtain ⟨z667215, hz667215⟩ : ∃ z : Int32, z = z666919 + Int32.ofInt 1 := ⟨_, rfl⟩
                            have ez667215 : z667215.toInt = z666919.toInt + 1 := gI_inc hz667215 (by decide) bz666919' (by decide) (by decide)
                            have bz667215 : gB z667215 (-2147483644) 16777216 := ⟨by omega, by omega⟩
                            refine G_iinc (L' := [(7, .int z667215), (10, .int g667204), (9, .int z667086), (8, .int g667205), (6, .int z660235), (5, .int z660234), (0, .ref qs660224), (1, .int p660226), (2, .ref q660223), (3, .int p660227), (4, .int 0)]) z667215 3 dr_cJ1_indexOf_5af95_113 rfl hz667215.symm (Nat.le_of_ble_eq_true rfl) rfl ?_
                            refine G_goto 14 dr_cJ1_indexOf_5af95_116 (by decide +kernel) ?_
                            refine G_lv (L' := [(7, .int z667215), (6, .int z660235), (5, .int z660234), (0, .ref qs660224), (1, .int p660226), (2, .ref q660223), (3, .int p660227), (4, .int 0)]) [0, 4, 5, 6, 7, 8, 9, 10] rfl ?_
                            exact ih14_666146 z667215 (gB_w bz667215 (by decide) (by decide)) (by have qa0 : Int32.toInt 0 = 0 := (by decide); omega) (fun k e1 ht => kt14_666146 k e1 (fun R c1 c2 c3 c4 c5 c6 c7 c8 c9 => c8 g666145 z666151 z666919 z667084 z667085 z667086 g667205 z667215 k e1 bg666145 r666150 hz666151 r666306 hx667079 r667083 ez667084 ez667085 ez667086 hx667212 r667214 ez667215 (ht R c1 c2 c3 c4 c5 c6 c7 c8 c9))) (by have qa0 : Int32.toInt 0 = 0 := (by decide); omega)
                          · have r667216 : g667205.toInt = z667086.toInt := gC_eq hc667213
                            have hx667217 : tl_RStringLatin1_indexOf2_14 z660235 bs660225 z660234 p660227 f660228 (0 : Int32) 110 z666919 := kt14_666146 110 z666919 (fun R c1 c2 c3 c4 c5 c6 c7 c8 c9 => c9 g666145 z666151 z666919 z667084 z667085 z667086 g667205 bg666145 r666150 hz666151 r666306 hx667079 r667083 ez667084 ez667085 ez667086 hx667212 r667216)
                            refine G_iload 3 dr_cJ1_indexOf_5af95_110 rfl ?_
                            exact G_iretA dr_cJ1_indexOf_5af95_112 rfl (Nat.le_of_ble_eq_true rfl) (Nat.le_of_ble_eq_true rfl) ⟨z666919, rfl, rfl, (Nat.le_of_ble_eq_true rfl), (Nat.le_of_ble_eq_true rfl), (gB_w bz666919' (by decide) (by decide)), (by have qa0 : Int32.toInt 0 = 0 := (by decide); omega), (by first | exact ixP_of (by assumption) (by assumption) (by omega) | exact absurd (show False by omega) not_false), (fun R c1 c2 => c2 z660234 z660235 z666919 hz660234 bz660234 ez660235 hx667217)⟩
                        · have r667218 : g667205.toInt < z667086.toInt := gC_nle hc667210
                          have bg667205' : gB g667205 (-2147483644) 33554430 := ⟨by omega, by omega⟩
                          have bz667086' : gB z667086 (-2147483643) 33554431 := ⟨by omega, by omega⟩
                          refine G_aload_n 6 dr_cJ1_indexOf_5af95_83 rfl ?_
                          refine G_iload 2 dr_cJ1_indexOf_5af95_84 rfl ?_
                          refine G_kbald (f := fun j => bs660225.getD j 0) dr_cJ1_indexOf_5af95_86 hbs660225 (gB_inr (by omega) (by omega)) (G_nam fun z667219 hz667219 => ?_)
                          have bz667219 : gB z667219 (-2147483648) 2147483647 := gB_any z667219
                          refine G_aload_n 8 dr_cJ1_indexOf_5af95_87 rfl ?_
                          refine G_iload 0 dr_cJ1_indexOf_5af95_88 rfl ?_
                          refine Gp_bald 1 hmq660223 heq660223 dr_cJ1_indexOf_5af95_90 rfl (gB_inr (by omega) (by omega)) (G_nam fun z667220 hz667220 => ?_)
                          have bz667220 : gB z667220 (-128) 127 := by rw [hz667220]; exact bf660228 _
                          refine G_icmp_ne 103 dr_cJ1_indexOf_5af95_91 (by decide +kernel) (fun hc667221 => ?_) (fun hc667221 => ?_)
                          · have r667222 : z667219.toInt ≠ z667220.toInt := gC_ne hc667221
                            have hx667223 : tl_RStringLatin1_indexOf2_76_3 z667086 bs660225 f660228 (1 : Int32) z667084 103 g667205 := kt76_667209 103 g667205 (fun R c1 c2 c3 => c2 g667204 g667205 z667219 z667220 bg667204 bg667205 r667218 hz667219 hz667220 bz667220 r667222)
                            refine G_iload 2 dr_cJ1_indexOf_5af95_103 rfl ?_
                            refine G_iload 1 dr_cJ1_indexOf_5af95_105 rfl ?_
                            refine G_icmp_ne 113 dr_cJ1_indexOf_5af95_107 (by decide +kernel) (fun hc667224 => ?_) (fun hc667224 => ?_)
                            · have r667225 : g667205.toInt ≠ z667086.toInt := gC_ne hc667224
                              obtain ⟨z667226, hz667226⟩ : ∃ z : Int32, z = z666919 + Int32.ofInt 1 := ⟨_, rfl⟩
                              have ez667226 : z667226.toInt = z666919.toInt + 1 := gI_inc hz667226 (by decide) bz666919' (by decide) (by decide)
                              have bz667226 : gB z667226 (-2147483644) 16777216 := ⟨by omega, by omega⟩
                              refine G_iinc (L' := [(7, .int z667226), (10, .int g667204), (9, .int z667086), (8, .int g667205), (6, .int z660235), (5, .int z660234), (0, .ref qs660224), (1, .int p660226), (2, .ref q660223), (3, .int p660227), (4, .int 0)]) z667226 3 dr_cJ1_indexOf_5af95_113 rfl hz667226.symm (Nat.le_of_ble_eq_true rfl) rfl ?_
                              refine G_goto 14 dr_cJ1_indexOf_5af95_116 (by decide +kernel) ?_
                              refine G_lv (L' := [(7, .int z667226), (6, .int z660235), (5, .int z660234), (0, .ref qs660224), (1, .int p660226), (2, .ref q660223), (3, .int p660227), (4, .int 0)]) [0, 4, 5, 6, 7, 8, 9, 10] rfl ?_
                              exact ih14_666146 z667226 (gB_w bz667226 (by decide) (by decide)) (by have qa0 : Int32.toInt 0 = 0 := (by decide); omega) (fun k e1 ht => kt14_666146 k e1 (fun R c1 c2 c3 c4 c5 c6 c7 c8 c9 => c8 g666145 z666151 z666919 z667084 z667085 z667086 g667205 z667226 k e1 bg666145 r666150 hz666151 r666306 hx667079 r667083 ez667084 ez667085 ez667086 hx667223 r667225 ez667226 (ht R c1 c2 c3 c4 c5 c6 c7 c8 c9))) (by have qa0 : Int32.toInt 0 = 0 := (by decide); omega)
                            · have r667227 : g667205.toInt = z667086.toInt := gC_eq hc667224
                              have bg667205'' : gB g667205 (-2147483643) 33554430 := ⟨by omega, by omega⟩
                              have bz667086'' : gB z667086 (-2147483643) 33554430 := ⟨by omega, by omega⟩
                              have hx667228 : tl_RStringLatin1_indexOf2_14 z660235 bs660225 z660234 p660227 f660228 (0 : Int32) 110 z666919 := kt14_666146 110 z666919 (fun R c1 c2 c3 c4 c5 c6 c7 c8 c9 => c9 g666145 z666151 z666919 z667084 z667085 z667086 g667205 bg666145 r666150 hz666151 r666306 hx667079 r667083 ez667084 ez667085 ez667086 hx667223 r667227)
                              refine G_iload 3 dr_cJ1_indexOf_5af95_110 rfl ?_
                              exact G_iretA dr_cJ1_indexOf_5af95_112 rfl (Nat.le_of_ble_eq_true rfl) (Nat.le_of_ble_eq_true rfl) ⟨z666919, rfl, rfl, (Nat.le_of_ble_eq_true rfl), (Nat.le_of_ble_eq_true rfl), (gB_w bz666919' (by decide) (by decide)), (by have qa0 : Int32.toInt 0 = 0 := (by decide); omega), (by first | exact ixP_of (by assumption) (by assumption) (by omega) | exact absurd (show False by omega) not_false), (fun R c1 c2 => c2 z660234 z660235 z666919 hz660234 bz660234 ez660235 hx667228)⟩
                          · have r667229 : z667219.toInt = z667220.toInt := gC_eq hc667221
                            have bz667219' : gB z667219 (-128) 127 := ⟨by omega, by omega⟩
                            obtain ⟨z667230, hz667230⟩ : ∃ z : Int32, z = g667205 + Int32.ofInt 1 := ⟨_, rfl⟩
                            have ez667230 : z667230.toInt = g667205.toInt + 1 := gI_inc hz667230 (by decide) bg667205' (by decide) (by decide)
                            have bz667230 : gB z667230 (-2147483643) 33554431 := ⟨by omega, by omega⟩
                            refine G_iinc (L' := [(8, .int z667230), (10, .int g667204), (9, .int z667086), (7, .int z666919), (6, .int z660235), (5, .int z660234), (0, .ref qs660224), (1, .int p660226), (2, .ref q660223), (3, .int p660227), (4, .int 0)]) z667230 2 dr_cJ1_indexOf_5af95_94 rfl hz667230.symm (Nat.le_of_ble_eq_true rfl) rfl ?_
                            have bg667204' : gB g667204 1 16777216 := ⟨by omega, by omega⟩
                            obtain ⟨z667231, hz667231⟩ : ∃ z : Int32, z = g667204 + Int32.ofInt 1 := ⟨_, rfl⟩
                            have ez667231 : z667231.toInt = g667204.toInt + 1 := gI_inc hz667231 (by decide) bg667204' (by decide) (by decide)
                            have bz667231 : gB z667231 2 16777217 := ⟨by omega, by omega⟩
                            refine G_iinc (L' := [(10, .int z667231), (8, .int z667230), (9, .int z667086), (7, .int z666919), (6, .int z660235), (5, .int z660234), (0, .ref qs660224), (1, .int p660226), (2, .ref q660223), (3, .int p660227), (4, .int 0)]) z667231 1 dr_cJ1_indexOf_5af95_97 rfl hz667231.symm (Nat.le_of_ble_eq_true rfl) rfl ?_
                            refine G_goto 76 dr_cJ1_indexOf_5af95_100 (by decide +kernel) ?_
                            refine G_lv (L' := [(10, .int z667231), (9, .int z667086), (8, .int z667230), (7, .int z666919), (6, .int z660235), (5, .int z660234), (0, .ref qs660224), (1, .int p660226), (2, .ref q660223), (3, .int p660227), (4, .int 0)]) [0, 2, 1, 3, 4, 5, 6, 7, 8, 9, 10] rfl ?_
                            exact ih76_667209 z667231 z667230 (gB_w bz667231 (by decide) (by decide)) (gB_w bz667230 (by decide) (by decide)) (by have qa0 : Int32.toInt 0 = 0 := (by decide); omega) (by have qa0 : Int32.toInt 0 = 0 := (by decide); omega) (by have qa0 : Int32.toInt 0 = 0 := (by decide); omega) (by have qa0 : Int32.toInt 0 = 0 := (by decide); omega) (fun k e1 ht => kt76_667209 k e1 (fun R c1 c2 c3 => c3 g667204 g667205 z667219 z667220 z667230 z667231 k e1 bg667204 bg667205 r667218 hz667219 hz667220 bz667220 r667229 ez667230 ez667231 (ht R c1 c2 c3))) (by have qa0 : Int32.toInt 0 = 0 := (by decide); omega)
                    exact hlp76_667209 (((z667086.toInt : Int) + 2 - z667084.toInt).toNat + 1) 1 z667084 (gB_w (gBl (show Int32.toInt 1 = 1 by decide)) (by decide) (by decide)) (gB_w bz667084 (by decide) (by decide)) (by have qa0 : Int32.toInt 0 = 0 := (by decide); have qa1 : Int32.toInt 1 = 1 := (by decide); omega) (by have qa0 : Int32.toInt 0 = 0 := (by decide); have qa1 : Int32.toInt 1 = 1 := (by decide); omega) (by have qa0 : Int32.toInt 0 = 0 := (by decide); have qa1 : Int32.toInt 1 = 1 := (by decide); omega) (by have qa0 : Int32.toInt 0 = 0 := (by decide); have qa1 : Int32.toInt 1 = 1 := (by decide); omega) (fun k e1 ht => ht) (Nat.lt_succ_self _)
                · have r667232 : z667076.toInt ≠ z660234.toInt := gC_ne hc667077
                  refine G_goto 30 dr_cJ1_indexOf_5af95_49 (by decide +kernel) ?_
                  exact ih30_666918 z666919 (gB_w bz666919' (by decide) (by decide)) (by have qa0 : Int32.toInt 0 = 0 := (by decide); omega) (by have qa0 : Int32.toInt 0 = 0 := (by decide); omega) (fun k e1 ht => kt30_666918 k e1 (fun R c1 c2 c3 => c3 g666916 z666919 z667076 k e1 bg666916 ez666919 r667075 hz667076 r667232 (ht R c1 c2 c3))) (by have qa0 : Int32.toInt 0 = 0 := (by decide); omega)
          exact hlp30_666918 (((z660235.toInt : Int) + 2 - g666145.toInt).toNat + 1) g666145 bg666145' (by have qa0 : Int32.toInt 0 = 0 := (by decide); omega) (by have qa0 : Int32.toInt 0 = 0 := (by decide); omega) (fun k e1 ht => ht) (Nat.lt_succ_self _)
  exact hlp14_666146 (((z660235.toInt : Int) + 2 - 0).toNat + 1) 0 (gB_w (gBl (show Int32.toInt 0 = 0 by decide)) (by decide) (by decide)) (by have qa0 : Int32.toInt 0 = 0 := (by decide); omega) (fun k e1 ht => ht) (Nat.lt_succ_self _)
/- tr_RStringLatin1_indexOf: result -/
def tr_RStringLatin1_indexOf (bs : List Int32) (a1_v : Nat → Int32) (a1_n : Nat) (o1 : Int32) : Prop := ∀ R : (Int32) → Prop,
  (∀ (x1 : Int32) (x2 : Int32) (x3 : Int32) (x4 : Int32) (x5 : Int32), x1.toInt = (a1_n : Nat) → x1.toInt ≠ 0 → x2.toInt = (bs.length : Int) → x2.toInt ≠ 0 → x3.toInt = (bs.length : Int) → x4.toInt = (a1_n : Nat) → gB x5 (-2147483646) 16777215 → tr_RStringLatin1_indexOf2 bs x3 x4 a1_v x5 → R x5) →
  (∀ (x1 : Int32) (x2 : Int32), x1.toInt = (a1_n : Nat) → x1.toInt ≠ 0 → x2.toInt = (bs.length : Int) → x2.toInt = 0 → R (-1 : Int32)) →
  R o1
