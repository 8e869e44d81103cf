theorem dr_cJ0_isLatin1_aae02_0 : decode cJ0_isLatin1_aae02 0 = .ok (.getstatic 38, 3) := by decide +kernel
theorem dr_cJ0_isLatin1_aae02_3 : decode cJ0_isLatin1_aae02 3 = .ok (.ifCond .eq 14, 3) := by decide +kernel
theorem dr_cJ0_isLatin1_aae02_6 : decode cJ0_isLatin1_aae02 6 = .ok (.aload_n 0, 1) := by decide +kernel
theorem dr_cJ0_isLatin1_aae02_7 : decode cJ0_isLatin1_aae02 7 = .ok (.getfield 15, 3) := by decide +kernel
theorem dr_cJ0_isLatin1_aae02_10 : decode cJ0_isLatin1_aae02 10 = .ok (.ifCond .ne 7, 3) := by decide +kernel
theorem dr_cJ0_isLatin1_aae02_13 : decode cJ0_isLatin1_aae02 13 = .ok (.iconst 1, 1) := by decide +kernel
theorem dr_cJ0_isLatin1_aae02_14 : decode cJ0_isLatin1_aae02 14 = .ok (.goto 4, 3) := by decide +kernel
theorem dr_cJ0_isLatin1_aae02_18 : decode cJ0_isLatin1_aae02 18 = .ok (.ireturn, 1) := by decide +kernel
theorem dr_cJ1_charAt_3b067_0 : decode cJ1_charAt_3b067 0 = .ok (.iload_n 1, 1) := by decide +kernel
theorem dr_cJ1_charAt_3b067_1 : decode cJ1_charAt_3b067 1 = .ok (.aload_n 0, 1) := by decide +kernel
theorem dr_cJ1_charAt_3b067_2 : decode cJ1_charAt_3b067 2 = .ok (.arraylength, 1) := by decide +kernel
theorem dr_cJ1_charAt_3b067_3 : decode cJ1_charAt_3b067 3 = .ok (.invokestatic 9, 3) := by decide +kernel
theorem wr_3_78 : (Jvm.Cond.methodLink "java/lang/StringLatin1" (9 : Nat) ({ cls := "java/lang/String", name := "checkIndex", desc := "(II)V" } : Jvm.MethodName)) ∈ gw := gw_3 78 rfl rfl
theorem dr_cJ1_charAt_3b067_6 : decode cJ1_charAt_3b067 6 = .ok (.aload_n 0, 1) := by decide +kernel
theorem dr_cJ1_charAt_3b067_7 : decode cJ1_charAt_3b067 7 = .ok (.iload_n 1, 1) := by decide +kernel
theorem dr_cJ1_charAt_3b067_8 : decode cJ1_charAt_3b067 8 = .ok (.baload, 1) := by decide +kernel
theorem dr_cJ1_charAt_3b067_9 : decode cJ1_charAt_3b067 9 = .ok (.sipush 255, 3) := by decide +kernel
theorem dr_cJ1_charAt_3b067_12 : decode cJ1_charAt_3b067 12 = .ok (.iand, 1) := by decide +kernel
theorem dr_cJ1_charAt_3b067_13 : decode cJ1_charAt_3b067 13 = .ok (.i2c, 1) := by decide +kernel
theorem dr_cJ1_charAt_3b067_14 : decode cJ1_charAt_3b067 14 = .ok (.ireturn, 1) := by decide +kernel
theorem dr_cJ0_charAt_5068e_0 : decode cJ0_charAt_5068e 0 = .ok (.aload_n 0, 1) := by decide +kernel
theorem dr_cJ0_charAt_5068e_1 : decode cJ0_charAt_5068e 1 = .ok (.invokevirtual 492, 3) := by decide +kernel
theorem wr_3_71 : (Jvm.Cond.methodLink "java/lang/String" (492 : Nat) ({ cls := "java/lang/String", name := "isLatin1", desc := "()Z" } : Jvm.MethodName)) ∈ gw := gw_3 71 rfl rfl
theorem wr_3_74 : (Jvm.Cond.code ({ cls := "java/lang/String", name := "isLatin1", desc := "()Z" } : Jvm.MethodName) prog_34_method_154_code (1 : Nat) (Option.some Jvm.ClassFile.FieldType.boolean)) ∈ gw := gw_3 74 rfl rfl
theorem wr_3_72 : (Jvm.Cond.instanceMethod ({ cls := "java/lang/String", name := "isLatin1", desc := "()Z" } : Jvm.MethodName)) ∈ gw := gw_3 72 rfl rfl
theorem wr_3_73 : (Jvm.Cond.selects "java/lang/String" ({ cls := "java/lang/String", name := "isLatin1", desc := "()Z" } : Jvm.MethodName) ({ cls := "java/lang/String", name := "isLatin1", desc := "()Z" } : Jvm.MethodName)) ∈ gw := gw_3 73 rfl rfl
theorem dr_cJ0_charAt_5068e_4 : decode cJ0_charAt_5068e 4 = .ok (.ifCond .eq 12, 3) := by decide +kernel
theorem dr_cJ0_charAt_5068e_7 : decode cJ0_charAt_5068e 7 = .ok (.aload_n 0, 1) := by decide +kernel
theorem dr_cJ0_charAt_5068e_8 : decode cJ0_charAt_5068e 8 = .ok (.getfield 9, 3) := by decide +kernel
theorem dr_cJ0_charAt_5068e_11 : decode cJ0_charAt_5068e 11 = .ok (.iload_n 1, 1) := by decide +kernel
theorem dr_cJ0_charAt_5068e_12 : decode cJ0_charAt_5068e 12 = .ok (.invokestatic 495, 3) := by decide +kernel
theorem wr_3_75 : (Jvm.Cond.methodLink "java/lang/String" (495 : Nat) ({ cls := "java/lang/StringLatin1", name := "charAt", desc := "([BI)C" } : Jvm.MethodName)) ∈ gw := gw_3 75 rfl rfl
theorem wr_3_77 : (Jvm.Cond.code ({ cls := "java/lang/StringLatin1", name := "charAt", desc := "([BI)C" } : Jvm.MethodName) prog_37_method_2_code (2 : Nat) (Option.some Jvm.ClassFile.FieldType.char)) ∈ gw := gw_3 77 rfl rfl
theorem wr_3_76 : (Jvm.Cond.static ({ cls := "java/lang/StringLatin1", name := "charAt", desc := "([BI)C" } : Jvm.MethodName)) ∈ gw := gw_3 76 rfl rfl
theorem dr_cJ0_charAt_5068e_15 : decode cJ0_charAt_5068e 15 = .ok (.ireturn, 1) := by decide +kernel
theorem dr_cJ1_indexOf_5af95_0 : decode cJ1_indexOf_5af95 0 = .ok (.aload_n 2, 1) := by decide +kernel
theorem dr_cJ1_indexOf_5af95_1 : decode cJ1_indexOf_5af95 1 = .ok (.iconst 0, 1) := by decide +kernel
theorem dr_cJ1_indexOf_5af95_2 : decode cJ1_indexOf_5af95 2 = .ok (.baload, 1) := by decide +kernel
theorem dr_cJ1_indexOf_5af95_3 : decode cJ1_indexOf_5af95 3 = .ok (.istore 5, 2) := by decide +kernel
theorem dr_cJ1_indexOf_5af95_5 : decode cJ1_indexOf_5af95 5 = .ok (.iload_n 1, 1) := by decide +kernel
theorem dr_cJ1_indexOf_5af95_6 : decode cJ1_indexOf_5af95 6 = .ok (.iload_n 3, 1) := by decide +kernel
theorem dr_cJ1_indexOf_5af95_7 : decode cJ1_indexOf_5af95 7 = .ok (.isub, 1) := by decide +kernel
theorem dr_cJ1_indexOf_5af95_8 : decode cJ1_indexOf_5af95 8 = .ok (.istore 6, 2) := by decide +kernel
theorem dr_cJ1_indexOf_5af95_10 : decode cJ1_indexOf_5af95 10 = .ok (.iload 4, 2) := by decide +kernel
theorem dr_cJ1_indexOf_5af95_12 : decode cJ1_indexOf_5af95 12 = .ok (.istore 7, 2) := by decide +kernel
theorem dr_cJ1_indexOf_5af95_14 : decode cJ1_indexOf_5af95 14 = .ok (.iload 7, 2) := by decide +kernel
theorem dr_cJ1_indexOf_5af95_16 : decode cJ1_indexOf_5af95 16 = .ok (.iload 6, 2) := by decide +kernel
theorem dr_cJ1_indexOf_5af95_18 : decode cJ1_indexOf_5af95 18 = .ok (.if_icmp .gt 101, 3) := by decide +kernel
theorem dr_cJ1_indexOf_5af95_119 : decode cJ1_indexOf_5af95 119 = .ok (.iconst (-1), 1) := by decide +kernel
theorem dr_cJ1_indexOf_5af95_120 : decode cJ1_indexOf_5af95 120 = .ok (.ireturn, 1) := by decide +kernel
theorem dr_cJ1_indexOf_5af95_21 : decode cJ1_indexOf_5af95 21 = .ok (.aload_n 0, 1) := by decide +kernel
theorem dr_cJ1_indexOf_5af95_22 : decode cJ1_indexOf_5af95 22 = .ok (.iload 7, 2) := by decide +kernel
theorem dr_cJ1_indexOf_5af95_24 : decode cJ1_indexOf_5af95 24 = .ok (.baload, 1) := by decide +kernel
theorem dr_cJ1_indexOf_5af95_25 : decode cJ1_indexOf_5af95 25 = .ok (.iload 5, 2) := by decide +kernel
theorem dr_cJ1_indexOf_5af95_27 : decode cJ1_indexOf_5af95 27 = .ok (.if_icmp .eq 25, 3) := by decide +kernel
theorem dr_cJ1_indexOf_5af95_52 : decode cJ1_indexOf_5af95 52 = .ok (.iload 7, 2) := by decide +kernel
theorem dr_cJ1_indexOf_5af95_54 : decode cJ1_indexOf_5af95 54 = .ok (.iload 6, 2) := by decide +kernel
theorem dr_cJ1_indexOf_5af95_56 : decode cJ1_indexOf_5af95 56 = .ok (.if_icmp .gt 57, 3) := by decide +kernel
theorem dr_cJ1_indexOf_5af95_113 : decode cJ1_indexOf_5af95 113 = .ok (.iinc 7 1, 3) := by decide +kernel
theorem dr_cJ1_indexOf_5af95_116 : decode cJ1_indexOf_5af95 116 = .ok (.goto (-102), 3) := by decide +kernel
theorem dr_cJ1_indexOf_5af95_59 : decode cJ1_indexOf_5af95 59 = .ok (.iload 7, 2) := by decide +kernel
theorem dr_cJ1_indexOf_5af95_61 : decode cJ1_indexOf_5af95 61 = .ok (.iconst 1, 1) := by decide +kernel
theorem dr_cJ1_indexOf_5af95_62 : decode cJ1_indexOf_5af95 62 = .ok (.iadd, 1) := by decide +kernel
theorem dr_cJ1_indexOf_5af95_63 : decode cJ1_indexOf_5af95 63 = .ok (.istore 8, 2) := by decide +kernel
theorem dr_cJ1_indexOf_5af95_65 : decode cJ1_indexOf_5af95 65 = .ok (.iload 8, 2) := by decide +kernel
theorem dr_cJ1_indexOf_5af95_67 : decode cJ1_indexOf_5af95 67 = .ok (.iload_n 3, 1) := by decide +kernel
theorem dr_cJ1_indexOf_5af95_68 : decode cJ1_indexOf_5af95 68 = .ok (.iadd, 1) := by decide +kernel
theorem dr_cJ1_indexOf_5af95_69 : decode cJ1_indexOf_5af95 69 = .ok (.iconst 1, 1) := by decide +kernel
theorem dr_cJ1_indexOf_5af95_70 : decode cJ1_indexOf_5af95 70 = .ok (.isub, 1) := by decide +kernel
theorem dr_cJ1_indexOf_5af95_71 : decode cJ1_indexOf_5af95 71 = .ok (.istore 9, 2) := by decide +kernel
theorem dr_cJ1_indexOf_5af95_73 : decode cJ1_indexOf_5af95 73 = .ok (.iconst 1, 1) := by decide +kernel
theorem dr_cJ1_indexOf_5af95_74 : decode cJ1_indexOf_5af95 74 = .ok (.istore 10, 2) := by decide +kernel
theorem dr_cJ1_indexOf_5af95_76 : decode cJ1_indexOf_5af95 76 = .ok (.iload 8, 2) := by decide +kernel
theorem dr_cJ1_indexOf_5af95_78 : decode cJ1_indexOf_5af95 78 = .ok (.iload 9, 2) := by decide +kernel
theorem dr_cJ1_indexOf_5af95_80 : decode cJ1_indexOf_5af95 80 = .ok (.if_icmp .ge 23, 3) := by decide +kernel
theorem dr_cJ1_indexOf_5af95_103 : decode cJ1_indexOf_5af95 103 = .ok (.iload 8, 2) := by decide +kernel
theorem dr_cJ1_indexOf_5af95_105 : decode cJ1_indexOf_5af95 105 = .ok (.iload 9, 2) := by decide +kernel
theorem dr_cJ1_indexOf_5af95_107 : decode cJ1_indexOf_5af95 107 = .ok (.if_icmp .ne 6, 3) := by decide +kernel
theorem dr_cJ1_indexOf_5af95_110 : decode cJ1_indexOf_5af95 110 = .ok (.iload 7, 2) := by decide +kernel
theorem dr_cJ1_indexOf_5af95_112 : decode cJ1_indexOf_5af95 112 = .ok (.ireturn, 1) := by decide +kernel
theorem dr_cJ1_indexOf_5af95_83 : decode cJ1_indexOf_5af95 83 = .ok (.aload_n 0, 1) := by decide +kernel
theorem dr_cJ1_indexOf_5af95_84 : decode cJ1_indexOf_5af95 84 = .ok (.iload 8, 2) := by decide +kernel
theorem dr_cJ1_indexOf_5af95_86 : decode cJ1_indexOf_5af95 86 = .ok (.baload, 1) := by decide +kernel
theorem dr_cJ1_indexOf_5af95_87 : decode cJ1_indexOf_5af95 87 = .ok (.aload_n 2, 1) := by decide +kernel
theorem dr_cJ1_indexOf_5af95_88 : decode cJ1_indexOf_5af95 88 = .ok (.iload 10, 2) := by decide +kernel
theorem dr_cJ1_indexOf_5af95_90 : decode cJ1_indexOf_5af95 90 = .ok (.baload, 1) := by decide +kernel
theorem dr_cJ1_indexOf_5af95_91 : decode cJ1_indexOf_5af95 91 = .ok (.if_icmp .ne 12, 3) := by decide +kernel
theorem dr_cJ1_indexOf_5af95_94 : decode cJ1_indexOf_5af95 94 = .ok (.iinc 8 1, 3) := by decide +kernel
theorem dr_cJ1_indexOf_5af95_97 : decode cJ1_indexOf_5af95 97 = .ok (.iinc 10 1, 3) := by decide +kernel
theorem dr_cJ1_indexOf_5af95_100 : decode cJ1_indexOf_5af95 100 = .ok (.goto (-24), 3) := by decide +kernel
theorem dr_cJ1_indexOf_5af95_30 : decode cJ1_indexOf_5af95 30 = .ok (.iinc 7 1, 3) := by decide +kernel
theorem dr_cJ1_indexOf_5af95_33 : decode cJ1_indexOf_5af95 33 = .ok (.iload 7, 2) := by decide +kernel
theorem dr_cJ1_indexOf_5af95_35 : decode cJ1_indexOf_5af95 35 = .ok (.iload 6, 2) := by decide +kernel
theorem dr_cJ1_indexOf_5af95_37 : decode cJ1_indexOf_5af95 37 = .ok (.if_icmp .gt 15, 3) := by decide +kernel
theorem dr_cJ1_indexOf_5af95_40 : decode cJ1_indexOf_5af95 40 = .ok (.aload_n 0, 1) := by decide +kernel
theorem dr_cJ1_indexOf_5af95_41 : decode cJ1_indexOf_5af95 41 = .ok (.iload 7, 2) := by decide +kernel
theorem dr_cJ1_indexOf_5af95_43 : decode cJ1_indexOf_5af95 43 = .ok (.baload, 1) := by decide +kernel
theorem dr_cJ1_indexOf_5af95_44 : decode cJ1_indexOf_5af95 44 = .ok (.iload 5, 2) := by decide +kernel
theorem dr_cJ1_indexOf_5af95_46 : decode cJ1_indexOf_5af95 46 = .ok (.if_icmp .eq 6, 3) := by decide +kernel
theorem dr_cJ1_indexOf_5af95_49 : decode cJ1_indexOf_5af95 49 = .ok (.goto (-19), 3) := by decide +kernel
abbrev ky_657070_String_isLatin1 : gKey := (cJ0_isLatin1_aae02, 1, "java/lang/String", (some FieldType.boolean), [], "isLatin1", fun _ _ => True)
def pp_657070_String_isLatin1 (D : va_G) (I : FieldType → ClassId) (P657065 : List Nat) (F657066 : Nat → va_E) (qs657067 : Nat) (qb657068 : Nat) (bs657069 : List Int32) : Option Value → va_W → Nat → Nat → Prop := fun r w dc ds => r = some (.int 1) ∧ w = va_pl P657065 F657066 ∧ dc ≤ 0 ∧ ds ≤ 0
set_option maxRecDepth 100000 in
set_option maxHeartbeats 4000000 in
theorem cp_657070_String_isLatin1 (l : Launch) (hl0 : l.stackTraces = false) (D : va_G) (I : FieldType → ClassId) (P657065 : List Nat) (F657066 : Nat → va_E) (qs657067 : Nat) (qb657068 : Nat) (bs657069 : List Int32) (hbs657069 : ∀ A s H, (gV D I).2.2.2.1 A s H → gSC qs657067 qb657068 bs657069 A s H) (nbs657069 : (bs657069.length : Int) ≤ 65535) (lbs657069 : gLB bs657069) : CtA (gV D I) l yJ0_isLatin1_aae02 cJ0_isLatin1_aae02 1 (some FieldType.boolean) 0 0 0 0 [.ref qs657067] (va_pl P657065 F657066) (pp_657070_String_isLatin1 D I P657065 F657066 qs657067 qb657068 bs657069) gNA := by
  refine CtA_ofF hl0 (by decide +kernel) (Nat.le_of_ble_eq_true rfl) ?_
  refine G_gets dr_cJ0_isLatin1_aae02_0 wr_3_65 gz_cs (fun x hx => ?_)
  subst hx
  refine G_if_eq 17 dr_cJ0_isLatin1_aae02_3 (by decide +kernel) (fun hc => absurd hc (by decide)) (fun _ => ?_)
  refine G_aload_n 0 dr_cJ0_isLatin1_aae02_6 rfl ?_
  refine G_kget dr_cJ0_isLatin1_aae02_7 wr_8_183 (fun _ _ _ h => (hbs657069 _ _ _ h).2.1) ?_
  refine G_if_ne 17 dr_cJ0_isLatin1_aae02_10 (by decide +kernel) (fun hc => absurd hc (by decide)) (fun _ => ?_)
  refine G_iconst 1 dr_cJ0_isLatin1_aae02_13 (by decide +kernel) ?_
  refine G_goto 18 dr_cJ0_isLatin1_aae02_14 (by decide +kernel) ?_
  exact G_zretA FieldType.boolean dr_cJ0_isLatin1_aae02_18 rfl rfl (Nat.le_of_ble_eq_true rfl) (Nat.le_of_ble_eq_true rfl) ⟨rfl, rfl, (Nat.le_of_ble_eq_true rfl), (Nat.le_of_ble_eq_true rfl)⟩
/- tr_RStringLatin1_charAt: result -/
def tr_RStringLatin1_charAt (bs : List Int32) (a1 : Int32) (o1 : Int32) : Prop := ∀ R : (Int32) → Prop,
  (∀ (x1 : Int32) (x2 : Int32) (x3 : Int32) (x4 : Int32), x1.toInt = (bs.length : Int) → tr_RString_checkIndex a1 x1 → x2 = bs.getD a1.toNatClampNeg 0 → x3 = x2 &&& (255 : Int32) → x4 = (x3.toUInt32 % 65536).toInt32 → R x4) →
  R o1
abbrev ky_657082_StringLatin1_charAt : gKey := (cJ1_charAt_3b067, 2, "java/lang/StringLatin1", (some FieldType.char), [], "charAt", fun _ _ => True)
def pp_657082_StringLatin1_charAt (D : va_G) (I : FieldType → ClassId) (P657076 : List Nat) (F657077 : Nat → va_E) (qs657078 : Nat) (bs657079 : List Int32) (p657080 : Int32) : Option Value → va_W → Nat → Nat → Prop := fun r w dc ds => ∃ (o657093 : Int32), r = some (.int o657093) ∧ w = va_pl P657076 F657077 ∧ dc ≤ 0 ∧ ds ≤ 0 ∧ gB o657093 0 65535 ∧ tr_RStringLatin1_charAt bs657079 p657080 o657093
set_option maxRecDepth 100000 in
set_option maxHeartbeats 4000000 in
theorem cp_657082_StringLatin1_charAt (l : Launch) (hl0 : l.stackTraces = false) (D : va_G) (I : FieldType → ClassId) (P657076 : List Nat) (F657077 : Nat → va_E) (qs657078 : Nat) (bs657079 : List Int32) (p657080 : Int32) (hbs657079 : ∀ A s H, (gV D I).2.2.2.1 A s H → va_T .byte qs657078 bs657079.length (fun j => .int (bs657079.getD j 0)) A s H) (nbs657079 : (bs657079.length : Int) ≤ 65535) (lbs657079 : gLB bs657079) (bp657080 : gB p657080 0 16777215) (x657081 : p657080.toInt < (bs657079.length : Int)) : CtA (gV D I) l yJ1_charAt_3b067 cJ1_charAt_3b067 2 (some FieldType.char) 2 43 0 0 [.ref qs657078, .int p657080] (va_pl P657076 F657077) (pp_657082_StringLatin1_charAt D I P657076 F657077 qs657078 bs657079 p657080) gNA := by
  refine CtA_ofF hl0 (by decide +kernel) (Nat.le_of_ble_eq_true rfl) ?_
  refine G_iload_n 1 dr_cJ1_charAt_3b067_0 rfl ?_
  refine G_aload_n 0 dr_cJ1_charAt_3b067_1 rfl ?_
  refine G_klen dr_cJ1_charAt_3b067_2 hbs657079 (G_nam fun z657083 hz657083 => ?_)
  have ez657083 : z657083.toInt = (bs657079.length : Int) := gI_ofN hz657083 nbs657079
  have bz657083 : gB z657083 0 65535 := ⟨by omega, by omega⟩
  refine Gw_callS (As := [.int p657080, .int z657083]) (gV_ok D I) (cp_655389_String_checkIndex l hl0 D I P657076 F657077 p657080 z657083 (gB_w bp657080 (by decide) (by decide)) (gB_w bz657083 (by decide) (by decide)) (by omega)) dr_cJ1_charAt_3b067_3 ⟨wr_3_78, wr_1_21, wr_3_80, by decide, rfl, (Nat.le_of_ble_eq_true rfl), (Nat.le_of_ble_eq_true rfl)⟩ wr_3_79 (show 0 + 0 ≤ 0 by first | omega | decide) (show 0 + 0 ≤ 0 by first | omega | decide) (Nat.le_of_ble_eq_true rfl) (fun r657087 w657088 dc657084 ds657085 hp657086 => ?_) (fun _ _ _ _ _ z => z.elim)
  obtain ⟨rfl, rfl, hdc, hds, ht657089⟩ := hp657086
  change G _ _ _ _ _ _ _ _ _ _ _
  refine G_widen (cs' := 0) (sl' := 0) (by omega) (by omega) ?_
  refine G_aload_n 0 dr_cJ1_charAt_3b067_6 rfl ?_
  refine G_iload_n 1 dr_cJ1_charAt_3b067_7 rfl ?_
  refine G_kbald (f := fun j => bs657079.getD j 0) dr_cJ1_charAt_3b067_8 hbs657079 (gB_inr (by omega) (by omega)) (G_nam fun z657090 hz657090 => ?_)
  have bz657090 : gB z657090 (-2147483648) 2147483647 := gB_any z657090
  refine G_sipush 255 dr_cJ1_charAt_3b067_9 (by decide +kernel) ?_
  refine G_iand dr_cJ1_charAt_3b067_12 (G_nam fun z657091 hz657091 => ?_)
  have bz657091 : gB z657091 0 255 := gB_and hz657091 (gBl (show Int32.toInt 255 = 255 by decide)) (by decide)
  refine G_i2c dr_cJ1_charAt_3b067_13 (G_nam fun z657092 hz657092 => ?_)
  have bz657092 : gB z657092 0 65535 := gB_i2c hz657092
  exact G_zretA FieldType.char dr_cJ1_charAt_3b067_14 rfl (gN_char bz657092) (Nat.le_of_ble_eq_true rfl) (Nat.le_of_ble_eq_true rfl) ⟨z657092, rfl, rfl, (Nat.le_of_ble_eq_true rfl), (Nat.le_of_ble_eq_true rfl), bz657092, (fun R c1 => c1 z657083 z657090 z657091 z657092 ez657083 ht657089 hz657090 hz657091 hz657092)⟩
/- tr_RString_charAt: result -/
def tr_RString_charAt (bs : List Int32) (a1 : Int32) (o1 : Int32) : Prop := ∀ R : (Int32) → Prop,
  (∀ (x1 : Int32), gB x1 0 65535 → tr_RStringLatin1_charAt bs a1 x1 → R x1) →
  R o1
abbrev ky_657064_String_charAt : gKey := (cJ0_charAt_5068e, 2, "java/lang/String", (some FieldType.char), [], "charAt", fun _ _ => True)
def pp_657064_String_charAt (D : va_G) (I : FieldType → ClassId) (P657057 : List Nat) (F657058 : Nat → va_E) (qs657059 : Nat) (qb657060 : Nat) (bs657061 : List Int32) (p657062 : Int32) : Option Value → va_W → Nat → Nat → Prop := fun r w dc ds => ∃ (o657101 : Int32), r = some (.int o657101) ∧ w = va_pl P657057 F657058 ∧ dc ≤ 0 ∧ ds ≤ 0 ∧ gB o657101 0 65535 ∧ tr_RString_charAt bs657061 p657062 o657101
set_option maxRecDepth 100000 in
set_option maxHeartbeats 4000000 in
theorem cp_657064_String_charAt (l : Launch) (hl0 : l.stackTraces = false) (D : va_G) (I : FieldType → ClassId) (P657057 : List Nat) (F657058 : Nat → va_E) (qs657059 : Nat) (qb657060 : Nat) (bs657061 : List Int32) (p657062 : Int32) (hbs657061 : ∀ A s H, (gV D I).2.2.2.1 A s H → gSC qs657059 qb657060 bs657061 A s H) (nbs657061 : (bs657061.length : Int) ≤ 65535) (lbs657061 : gLB bs657061) (bp657062 : gB p657062 0 65535) (x657063 : p657062.toInt < (bs657061.length : Int)) : CtA (gV D I) l yJ0_charAt_5068e cJ0_charAt_5068e 2 (some FieldType.char) 3 64 0 0 [.ref qs657059, .int p657062] (va_pl P657057 F657058) (pp_657064_String_charAt D I P657057 F657058 qs657059 qb657060 bs657061 p657062) gNA := by
  refine CtA_ofF hl0 (by decide +kernel) (Nat.le_of_ble_eq_true rfl) ?_
  refine G_aload_n 0 dr_cJ0_charAt_5068e_0 rfl ?_
  refine Gw_callVk (As := []) (gV_ok D I) (cp_657070_String_isLatin1 l hl0 D I P657057 F657058 qs657059 qb657060 bs657061 hbs657061 nbs657061 lbs657061) dr_cJ0_charAt_5068e_1 ⟨wr_3_71, wr_1_21, wr_3_74, by decide, rfl, (Nat.le_of_ble_eq_true rfl), (Nat.le_of_ble_eq_true rfl)⟩ wr_3_72 wr_3_73 (fun _ _ _ h => (hbs657061 _ _ _ h).1) (show 0 + 0 ≤ 0 by first | omega | decide) (show 0 + 0 ≤ 0 by first | omega | decide) (Nat.le_of_ble_eq_true rfl) (fun r657074 w657075 dc657071 ds657072 hp657073 => ?_) (fun _ _ _ _ _ z => z.elim)
  obtain ⟨rfl, rfl, hdc, hds⟩ := hp657073
  change G _ _ _ _ _ _ _ (.int 1 :: _) _ _ _
  refine G_widen (cs' := 0) (sl' := 0) (by omega) (by omega) ?_
  refine G_if_eq 16 dr_cJ0_charAt_5068e_4 (by decide +kernel) (fun hc => absurd hc (by decide)) (fun _ => ?_)
  refine G_aload_n 0 dr_cJ0_charAt_5068e_7 rfl ?_
  refine G_kget dr_cJ0_charAt_5068e_8 wr_8_182 (fun _ _ _ h => (hbs657061 _ _ _ h).2.2.1) ?_
  refine G_iload_n 1 dr_cJ0_charAt_5068e_11 rfl ?_
  refine Gw_callS (As := [.ref qb657060, .int p657062]) (gV_ok D I) (cp_657082_StringLatin1_charAt l hl0 D I P657057 F657058 qb657060 bs657061 p657062 (fun _ _ _ h => (hbs657061 _ _ _ h).2.2.2) (by omega) lbs657061 (gB_w bp657062 (by decide) (by decide)) (by omega)) dr_cJ0_charAt_5068e_12 ⟨wr_3_75, wr_1_28, wr_3_77, by decide, rfl, (Nat.le_of_ble_eq_true rfl), (Nat.le_of_ble_eq_true rfl)⟩ wr_3_76 (show 0 + 0 ≤ 0 by first | omega | decide) (show 0 + 0 ≤ 0 by first | omega | decide) (Nat.le_of_ble_eq_true rfl) (fun r657097 w657098 dc657094 ds657095 hp657096 => ?_) (fun _ _ _ _ _ z => z.elim)
  obtain ⟨o657099, rfl, rfl, hdc, hds, bo657099, ht657100⟩ := hp657096
  change G _ _ _ _ _ _ _ (.int o657099 :: _) _ _ _
  refine G_widen (cs' := 0) (sl' := 0) (by omega) (by omega) ?_
  exact G_zretA FieldType.char dr_cJ0_charAt_5068e_15 rfl (gN_char bo657099) (Nat.le_of_ble_eq_true rfl) (Nat.le_of_ble_eq_true rfl) ⟨o657099, rfl, rfl, (Nat.le_of_ble_eq_true rfl), (Nat.le_of_ble_eq_true rfl), bo657099, (fun R c1 => c1 o657099 bo657099 ht657100)⟩
/- tl_RStringLatin1_indexOf2_76: l10, l8; out: l8 -/
def tl_RStringLatin1_indexOf2_76 (c1 : Int32) (bs : List Int32) (a2_v : Nat → Int32) (s1 : Int32) (s2 : Int32) (k : Nat) (e1 : Int32) : Prop := ∀ R : (Int32) → (Int32) → Nat → (Int32) → Prop,
  (∀ (l10_2 : Int32) (l8_2 : Int32), gB l10_2 1 16777217 → gB l8_2 (-2147483645) 33554431 → c1.toInt ≤ l8_2.toInt → R l10_2 l8_2 103 l8_2) →
  (∀ (l10_2 : Int32) (l8_2 : Int32) (x1 : Int32) (x2 : Int32), gB l10_2 1 16777217 → gB l8_2 (-2147483645) 33554431 → l8_2.toInt < c1.toInt → x1 = bs.getD l8_2.toNatClampNeg 0 → x2 = a2_v l10_2.toNatClampNeg → gB x2 (-128) 127 → x1.toInt ≠ x2.toInt → R l10_2 l8_2 103 l8_2) →
  (∀ (l10_2 : Int32) (l8_2 : Int32) (x1 : Int32) (x2 : Int32) (x3 : Int32) (x4 : Int32) (k : Nat) (e1 : Int32), gB l10_2 1 16777217 → gB l8_2 (-2147483645) 33554431 → l8_2.toInt < c1.toInt → x1 = bs.getD l8_2.toNatClampNeg 0 → x2 = a2_v l10_2.toNatClampNeg → gB x2 (-128) 127 → x1.toInt = x2.toInt → x3.toInt = l8_2.toInt + 1 → x4.toInt = l10_2.toInt + 1 → R x4 x3 k e1 → R l10_2 l8_2 k e1) →
  R s1 s2 k e1
/- tl_RStringLatin1_indexOf2_76_2: l10, l8; out: l8 -/
def tl_RStringLatin1_indexOf2_76_2 (c1 : Int32) (bs : List Int32) (a2_v : Nat → Int32) (s1 : Int32) (s2 : Int32) (k : Nat) (e1 : Int32) : Prop := ∀ R : (Int32) → (Int32) → Nat → (Int32) → Prop,
  (∀ (l10_2 : Int32) (l8_2 : Int32), gB l10_2 1 16777217 → gB l8_2 (-16777214) 33554431 → c1.toInt ≤ l8_2.toInt → R l10_2 l8_2 103 l8_2) →
  (∀ (l10_2 : Int32) (l8_2 : Int32) (x1 : Int32) (x2 : Int32), gB l10_2 1 16777217 → gB l8_2 (-16777214) 33554431 → l8_2.toInt < c1.toInt → x1 = bs.getD l8_2.toNatClampNeg 0 → x2 = a2_v l10_2.toNatClampNeg → gB x2 (-128) 127 → x1.toInt ≠ x2.toInt → R l10_2 l8_2 103 l8_2) →
  (∀ (l10_2 : Int32) (l8_2 : Int32) (x1 : Int32) (x2 : Int32) (x3 : Int32) (x4 : Int32) (k : Nat) (e1 : Int32), gB l10_2 1 16777217 → gB l8_2 (-16777214) 33554431 → l8_2.toInt < c1.toInt → x1 = bs.getD l8_2.toNatClampNeg 0 → x2 = a2_v l10_2.toNatClampNeg → gB x2 (-128) 127 → x1.toInt = x2.toInt → x3.toInt = l8_2.toInt + 1 → x4.toInt = l10_2.toInt + 1 → R x4 x3 k e1 → R l10_2 l8_2 k e1) →
  R s1 s2 k e1
/- tl_RStringLatin1_indexOf2_76_3: l10, l8; out: l8 -/
def tl_RStringLatin1_indexOf2_76_3 (c1 : Int32) (bs : List Int32) (a2_v : Nat → Int32) (s1 : Int32) (s2 : Int32) (k : Nat) (e1 : Int32) : Prop := ∀ R : (Int32) → (Int32) → Nat → (Int32) → Prop,
  (∀ (l10_2 : Int32) (l8_2 : Int32), gB l10_2 1 16777217 → gB l8_2 (-2147483644) 33554431 → c1.toInt ≤ l8_2.toInt → R l10_2 l8_2 103 l8_2) →
  (∀ (l10_2 : Int32) (l8_2 : Int32) (x1 : Int32) (x2 : Int32), gB l10_2 1 16777217 → gB l8_2 (-2147483644) 33554431 → l8_2.toInt < c1.toInt → x1 = bs.getD l8_2.toNatClampNeg 0 → x2 = a2_v l10_2.toNatClampNeg → gB x2 (-128) 127 → x1.toInt ≠ x2.toInt → R l10_2 l8_2 103 l8_2) →
  (∀ (l10_2 : Int32) (l8_2 : Int32) (x1 : Int32) (x2 : Int32) (x3 : Int32) (x4 : Int32) (k : Nat) (e1 : Int32), gB l10_2 1 16777217 → gB l8_2 (-2147483644) 33554431 → l8_2.toInt < c1.toInt → x1 = bs.getD l8_2.toNatClampNeg 0 → x2 = a2_v l10_2.toNatClampNeg → gB x2 (-128) 127 → x1.toInt = x2.toInt → x3.toInt = l8_2.toInt + 1 → x4.toInt = l10_2.toInt + 1 → R x4 x3 k e1 → R l10_2 l8_2 k e1) →
  R s1 s2 k e1
/- tl_RStringLatin1_indexOf2_30: l7; out: l7 -/
def tl_RStringLatin1_indexOf2_30 (c1 : Int32) (bs : List Int32) (c2 : Int32) (s1 : Int32) (k : Nat) (e1 : Int32) : Prop := ∀ R : (Int32) → Nat → (Int32) → Prop,
  (∀ (l7_2 : Int32) (x1 : Int32), gB l7_2 (-2147483646) 16777215 → x1.toInt = l7_2.toInt + 1 → c1.toInt < x1.toInt → R l7_2 52 x1) →
  (∀ (l7_2 : Int32) (x1 : Int32) (x2 : Int32), gB l7_2 (-2147483646) 16777215 → x1.toInt = l7_2.toInt + 1 → x1.toInt ≤ c1.toInt → x2 = bs.getD x1.toNatClampNeg 0 → x2.toInt = c2.toInt → R l7_2 52 x1) →
  (∀ (l7_2 : Int32) (x1 : Int32) (x2 : Int32) (k : Nat) (e1 : Int32), gB l7_2 (-2147483646) 16777215 → x1.toInt = l7_2.toInt + 1 → x1.toInt ≤ c1.toInt → x2 = bs.getD x1.toNatClampNeg 0 → x2.toInt ≠ c2.toInt → R x1 k e1 → R l7_2 k e1) →
  R s1 k e1
/- tl_RStringLatin1_indexOf2_14: l7; out: l7 -/
def tl_RStringLatin1_indexOf2_14 (c1 : Int32) (bs : List Int32) (c2 : Int32) (a3 : Int32) (a2_v : Nat → Int32) (s1 : Int32) (k : Nat) (e1 : Int32) : Prop := ∀ R : (Int32) → Nat → (Int32) → Prop,
  (∀ (l7_1 : Int32), gB l7_1 (-2147483646) 16777217 → c1.toInt < l7_1.toInt → R l7_1 119 (0 : Int32)) →
  (∀ (l7_1 : Int32) (x1 : Int32) (x2 : Int32) (k : Nat) (e1 : Int32), gB l7_1 (-2147483646) 16777217 → l7_1.toInt ≤ c1.toInt → x1 = bs.getD l7_1.toNatClampNeg 0 → x1.toInt = c2.toInt → c1.toInt < l7_1.toInt → x2.toInt = l7_1.toInt + 1 → R x2 k e1 → R l7_1 k e1) →
  (∀ (l7_1 : Int32) (x1 : Int32) (x2 : Int32) (x3 : Int32) (x4 : Int32) (x5 : Int32) (x6 : Int32) (k : Nat) (e1 : Int32), gB l7_1 (-2147483646) 16777217 → l7_1.toInt ≤ c1.toInt → x1 = bs.getD l7_1.toNatClampNeg 0 → x1.toInt = c2.toInt → l7_1.toInt ≤ c1.toInt → x2.toInt = l7_1.toInt + 1 → x3.toInt = x2.toInt + a3.toInt → x4.toInt = x3.toInt - 1 → tl_RStringLatin1_indexOf2_76 x4 bs a2_v (1 : Int32) x2 103 x5 → x5.toInt ≠ x4.toInt → x6.toInt = l7_1.toInt + 1 → R x6 k e1 → R l7_1 k e1) →
  (∀ (l7_1 : Int32) (x1 : Int32) (x2 : Int32) (x3 : Int32) (x4 : Int32) (x5 : Int32), gB l7_1 (-2147483646) 16777217 → l7_1.toInt ≤ c1.toInt → x1 = bs.getD l7_1.toNatClampNeg 0 → x1.toInt = c2.toInt → l7_1.toInt ≤ c1.toInt → x2.toInt = l7_1.toInt + 1 → x3.toInt = x2.toInt + a3.toInt → x4.toInt = x3.toInt - 1 → tl_RStringLatin1_indexOf2_76 x4 bs a2_v (1 : Int32) x2 103 x5 → x5.toInt = x4.toInt → R l7_1 110 l7_1) →
  (∀ (l7_1 : Int32) (x1 : Int32) (x2 : Int32) (x3 : Int32) (k : Nat) (e1 : Int32), gB l7_1 (-2147483646) 16777217 → l7_1.toInt ≤ c1.toInt → x1 = bs.getD l7_1.toNatClampNeg 0 → x1.toInt ≠ c2.toInt → tl_RStringLatin1_indexOf2_30 c1 bs c2 l7_1 52 x2 → c1.toInt < x2.toInt → x3.toInt = x2.toInt + 1 → R x3 k e1 → R l7_1 k e1) →
  (∀ (l7_1 : Int32) (x1 : Int32) (x2 : Int32) (x3 : Int32) (x4 : Int32) (x5 : Int32) (x6 : Int32) (x7 : Int32) (k : Nat) (e1 : Int32), gB l7_1 (-2147483646) 16777217 → l7_1.toInt ≤ c1.toInt → x1 = bs.getD l7_1.toNatClampNeg 0 → x1.toInt ≠ c2.toInt → tl_RStringLatin1_indexOf2_30 c1 bs c2 l7_1 52 x2 → x2.toInt ≤ c1.toInt → x3.toInt = x2.toInt + 1 → x4.toInt = x3.toInt + a3.toInt → x5.toInt = x4.toInt - 1 → tl_RStringLatin1_indexOf2_76_2 x5 bs a2_v (1 : Int32) x3 103 x6 → x6.toInt ≠ x5.toInt → x7.toInt = x2.toInt + 1 → R x7 k e1 → R l7_1 k e1) →
  (∀ (l7_1 : Int32) (x1 : Int32) (x2 : Int32) (x3 : Int32) (x4 : Int32) (x5 : Int32) (x6 : Int32), gB l7_1 (-2147483646) 16777217 → l7_1.toInt ≤ c1.toInt → x1 = bs.getD l7_1.toNatClampNeg 0 → x1.toInt ≠ c2.toInt → tl_RStringLatin1_indexOf2_30 c1 bs c2 l7_1 52 x2 → x2.toInt ≤ c1.toInt → x3.toInt = x2.toInt + 1 → x4.toInt = x3.toInt + a3.toInt → x5.toInt = x4.toInt - 1 → tl_RStringLatin1_indexOf2_76_2 x5 bs a2_v (1 : Int32) x3 103 x6 → x6.toInt = x5.toInt → R l7_1 110 x2) →
  (∀ (l7_1 : Int32) (x1 : Int32) (x2 : Int32) (x3 : Int32) (x4 : Int32) (x5 : Int32) (x6 : Int32) (x7 : Int32) (k : Nat) (e1 : Int32), gB l7_1 (-2147483646) 16777217 → l7_1.toInt ≤ c1.toInt → x1 = bs.getD l7_1.toNatClampNeg 0 → x1.toInt ≠ c2.toInt → tl_RStringLatin1_indexOf2_30 c1 bs c2 l7_1 52 x2 → x2.toInt ≤ c1.toInt → x3.toInt = x2.toInt + 1 → x4.toInt = x3.toInt + a3.toInt → x5.toInt = x4.toInt - 1 → tl_RStringLatin1_indexOf2_76_3 x5 bs a2_v (1 : Int32) x3 103 x6 → x6.toInt ≠ x5.toInt → x7.toInt = x2.toInt + 1 → R x7 k e1 → R l7_1 k e1) →
  (∀ (l7_1 : Int32) (x1 : Int32) (x2 : Int32) (x3 : Int32) (x4 : Int32) (x5 : Int32) (x6 : Int32), gB l7_1 (-2147483646) 16777217 → l7_1.toInt ≤ c1.toInt → x1 = bs.getD l7_1.toNatClampNeg 0 → x1.toInt ≠ c2.toInt → tl_RStringLatin1_indexOf2_30 c1 bs c2 l7_1 52 x2 → x2.toInt ≤ c1.toInt → x3.toInt = x2.toInt + 1 → x4.toInt = x3.toInt + a3.toInt → x5.toInt = x4.toInt - 1 → tl_RStringLatin1_indexOf2_76_3 x5 bs a2_v (1 : Int32) x3 103 x6 → x6.toInt = x5.toInt → R l7_1 110 x2) →
  R s1 k e1
/- tr_RStringLatin1_indexOf2: result -/
def tr_RStringLatin1_indexOf2 (bs : List Int32) (a1 : Int32) (a3 : Int32) (a2_v : Nat → Int32) (o1 : Int32) : Prop := ∀ R : (Int32) → Prop,
  (∀ (x1 : Int32) (x2 : Int32), x1 = a2_v (0 : Int32).toNatClampNeg → gB x1 (-128) 127 → x2.toInt = a1.toInt - a3.toInt → tl_RStringLatin1_indexOf2_14 x2 bs x1 a3 a2_v (0 : Int32) 119 (0 : Int32) → R (-1 : Int32)) →
  (∀ (x1 : Int32) (x2 : Int32) (x3 : Int32), x1 = a2_v (0 : Int32).toNatClampNeg → gB x1 (-128) 127 → x2.toInt = a1.toInt - a3.toInt → tl_RStringLatin1_indexOf2_14 x2 bs x1 a3 a2_v (0 : Int32) 110 x3 → R x3) →
  R o1
abbrev ky_657162_StringLatin1_indexOf : gKey := (cJ1_indexOf_5af95, 11, "java/lang/StringLatin1", (some FieldType.int), [], "indexOf", fun _ _ => True)
def pp_657162_StringLatin1_indexOf (D : va_G) (I : FieldType → ClassId) (P657150 : List Nat) (F657151 : Nat → va_E) (q657152 : Nat) (qs657153 : Nat) (bs657154 : List Int32) (p657155 : Int32) (p657156 : Int32) (f657157 : Nat → Int32) (n657158 : Nat) : Option Value → va_W → Nat → Nat → Prop := fun r w dc ds => ∃ (o664162 : Int32), r = some (.int o664162) ∧ w = va_pl P657150 F657151 ∧ dc ≤ 0 ∧ ds ≤ 0 ∧ gB o664162 (-2147483646) 16777215 ∧ (o664162.toInt < 0 ∨ o664162.toInt + p657156.toInt ≤ p657155.toInt) ∧ ixP (fun j => bs657154.getD j 0) f657157 o664162 ∧ tr_RStringLatin1_indexOf2 bs657154 p657155 p657156 f657157 o664162
set_option maxRecDepth 100000 in
set_option maxHeartbeats 4000000 in
theorem cp_657162_StringLatin1_indexOf (l : Launch) (hl0 : l.stackTraces = false) (D : va_G) (I : FieldType → ClassId) (P657150 : List Nat) (F657151 : Nat → va_E) (q657152 : Nat) (qs657153 : Nat) (bs657154 : List Int32) (p657155 : Int32) (p657156 : Int32) (f657157 : Nat → Int32) (n657158 : Nat) (hmq657152 : q657152 ∈ P657150) (heq657152 : F657151 q657152 = .inl (I .byte, n657158, .inl f657157)) (hbs657154 : ∀ A s H, (gV D I).2.2.2.1 A s H → va_T .byte qs657153 bs657154.length (fun j => .int (bs657154.getD j 0)) A s H) (nbs657154 : (bs657154.length : Int) ≤ 65535) (lbs657154 : gLB bs657154) (bp657155 : gB p657155 0 16777216) (bp657156 : gB p657156 1 16777216) (bf657157 : gF f657157 (-128) 127) (x657159 : p657155.toInt = (bs657154.length : Int)) (x657160 : p657156.toInt = (n657158 : Int)) (x657161 : ((n657158 : Int) ≤ 16777216)) : CtA (gV D I) l yJ1_indexOf_5af95 cJ1_indexOf_5af95 11 (some FieldType.int) 0 0 0 0 [.ref qs657153, .int p657155, .ref q657152, .int p657156, .int 0] (va_pl P657150 F657151) (pp_657162_StringLatin1_indexOf D I P657150 F657151 q657152 qs657153 bs657154 p657155 p657156 f657157 n657158) gNA := by
  refine CtA_ofF hl0 (by decide +kernel) (Nat.le_of_ble_eq_true rfl) ?_
  refine G_aload_n 2 dr_cJ1_indexOf_5af95_0 rfl ?_
  refine G_iconst 0 dr_cJ1_indexOf_5af95_1 (by decide +kernel) ?_
  refine Gp_bald 1 hmq657152 heq657152 dr_cJ1_indexOf_5af95_2 rfl (gB_inr (x := 0) (show (0 : Int) ≤ Int32.toInt 0 by decide) (show Int32.toInt 0 < _ by rw [show Int32.toInt 0 = 0 by decide]; omega)) (G_nam fun z657163 hz657163 => ?_)
  have bz657163 : gB z657163 (-128) 127 := by rw [hz657163]; exact bf657157 _
  refine G_istore (L' := [(5, .int z657163), (0, .ref qs657153), (1, .int p657155), (2, .ref q657152), (3, .int p657156), (4, .int 0)]) dr_cJ1_indexOf_5af95_3 (Nat.le_of_ble_eq_true rfl) rfl ?_
  refine G_iload_n 2 dr_cJ1_indexOf_5af95_5 rfl ?_
  refine G_iload_n 4 dr_cJ1_indexOf_5af95_6 rfl ?_
  refine G_isub dr_cJ1_indexOf_5af95_7 (G_nam fun z657164 hz657164 => ?_)
  have ez657164 : z657164.toInt = p657155.toInt - p657156.toInt := by rw [gI_sub hz657164 bp657155 bp657156 (by decide) (by decide)]
  have bz657164 : gB z657164 (-16777216) 16777215 := gB_sub (gI_sub hz657164 bp657155 bp657156 (by decide) (by decide)) bp657155 bp657156 (by decide) (by decide)
  refine G_istore (L' := [(6, .int z657164), (5, .int z657163), (0, .ref qs657153), (1, .int p657155), (2, .ref q657152), (3, .int p657156), (4, .int 0)]) dr_cJ1_indexOf_5af95_8 (Nat.le_of_ble_eq_true rfl) rfl ?_
  refine G_iload 6 dr_cJ1_indexOf_5af95_10 rfl ?_
  refine G_istore (L' := [(7, .int 0), (6, .int z657164), (5, .int z657163), (0, .ref qs657153), (1, .int p657155), (2, .ref q657152), (3, .int p657156), (4, .int 0)]) dr_cJ1_indexOf_5af95_12 (Nat.le_of_ble_eq_true rfl) rfl ?_
  have hlp14_663075 : ∀ (n14_663075 : Nat) (g663074 : Int32), gB g663074 (-2147483646) 16777217 → 0 ≤ g663074.toInt → (∀ (k : Nat) (e1 : Int32), tl_RStringLatin1_indexOf2_14 z657164 bs657154 z657163 p657156 f657157 g663074 k e1 → tl_RStringLatin1_indexOf2_14 z657164 bs657154 z657163 p657156 f657157 (0 : Int32) k e1) → ((z657164.toInt : Int) + 2 - g663074.toInt).toNat < n14_663075 → G (gV D I) l (gRm 0 0 0 0) (gMA (gV D I) (pp_657162_StringLatin1_indexOf D I P657150 F657151 q657152 qs657153 bs657154 p657155 p657156 f657157 n657158) gNA 0 0) ky_657162_StringLatin1_indexOf 14 [(7, .int g663074), (6, .int z657164), (5, .int z657163), (0, .ref qs657153), (1, .int p657155), (2, .ref q657152), (3, .int p657156), (4, .int 0)] [] (va_pl P657150 F657151) 0 0 := by
    intro n14_663075
    induction n14_663075 with
    | zero => intro g663074 bg663074 x663075 kt14_663075 hm14_663075; exact absurd hm14_663075 (Nat.not_lt_zero _)
    | succ n14_663075 ih14_663075 =>
      intro g663074 bg663074 x663075 kt14_663075 hm14_663075
      refine G_iload 0 dr_cJ1_indexOf_5af95_14 rfl ?_
      refine G_iload 1 dr_cJ1_indexOf_5af95_16 rfl ?_
      refine G_icmp_gt 119 dr_cJ1_indexOf_5af95_18 (by decide +kernel) (fun hc663076 => ?_) (fun hc663076 => ?_)
      · have r663077 : z657164.toInt < g663074.toInt := gC_lt hc663076
        have bg663074' : gB g663074 (-16777215) 16777217 := ⟨by omega, by omega⟩
        have hx663078 : tl_RStringLatin1_indexOf2_14 z657164 bs657154 z657163 p657156 f657157 (0 : Int32) 119 (0 : Int32) := kt14_663075 119 (0 : Int32) (fun R c1 c2 c3 c4 c5 c6 c7 c8 c9 => c1 g663074 bg663074 r663077)
        refine G_iconst (-1) dr_cJ1_indexOf_5af95_119 (by decide +kernel) ?_
        exact G_iretA dr_cJ1_indexOf_5af95_120 rfl (Nat.le_of_ble_eq_true rfl) (Nat.le_of_ble_eq_true rfl) ⟨(-1), rfl, rfl, (Nat.le_of_ble_eq_true rfl), (Nat.le_of_ble_eq_true rfl), (gB_w (gBl (show Int32.toInt (-1) = (-1) by decide)) (by decide) (by decide)), (by have qa0 : Int32.toInt (-1) = (-1) := (by decide); have qa1 : Int32.toInt 0 = 0 := (by decide); omega), (ixP_n (by decide)), (fun R c1 c2 => c1 z657163 z657164 hz657163 bz657163 ez657164 hx663078)⟩
      · have r663079 : g663074.toInt ≤ z657164.toInt := gC_nlt hc663076
        have bg663074' : gB g663074 (-2147483646) 16777215 := ⟨by omega, by omega⟩
        refine G_aload_n 3 dr_cJ1_indexOf_5af95_21 rfl ?_
        refine G_iload 0 dr_cJ1_indexOf_5af95_22 rfl ?_
        refine G_kbald (f := fun j => bs657154.getD j 0) dr_cJ1_indexOf_5af95_24 hbs657154 (gB_inr (by omega) (by omega)) (G_nam fun z663080 hz663080 => ?_)
        have bz663080 : gB z663080 (-2147483648) 2147483647 := gB_any z663080
        refine G_iload 2 dr_cJ1_indexOf_5af95_25 rfl ?_
        refine G_icmp_eq 52 dr_cJ1_indexOf_5af95_27 (by decide +kernel) (fun hc663081 => ?_) (fun hc663081 => ?_)
        · have r663082 : z663080.toInt = z657163.toInt := gC_eq hc663081
          have bz663080' : gB z663080 (-128) 127 := ⟨by omega, by omega⟩
          refine G_iload 0 dr_cJ1_indexOf_5af95_52 rfl ?_
          refine G_iload 1 dr_cJ1_indexOf_5af95_54 rfl ?_
          refine G_icmp_gt 113 dr_cJ1_indexOf_5af95_56 (by decide +kernel) (fun hc663083 => ?_) (fun hc663083 => ?_)
          · have r663084 : z657164.toInt < g663074.toInt := gC_lt hc663083
            have bz657164' : gB z657164 (-16777216) 16777214 := ⟨by omega, by omega⟩
            have bg663074'' : gB g663074 (-16777215) 16777215 := ⟨by omega, by omega⟩
            obtain ⟨z663085, hz663085⟩ : ∃ z : Int32, z = g663074 + Int32.ofInt 1 := ⟨_, rfl⟩
            have ez663085 : z663085.toInt = g663074.toInt + 1 := gI_inc hz663085 (by decide) bg663074'' (by decide) (by decide)
            have bz663085 : gB z663085 (-16777214) 16777216 := ⟨by omega, by omega⟩
            refine G_iinc (L' := [(7, .int z663085), (6, .int z657164), (5, .int z657163), (0, .ref qs657153), (1, .int p657155), (2, .ref q657152), (3, .int p657156), (4, .int 0)]) z663085 0 dr_cJ1_indexOf_5af95_113 rfl hz663085.symm (Nat.le_of_ble_eq_true rfl) rfl ?_
            refine G_goto 14 dr_cJ1_indexOf_5af95_116 (by decide +kernel) ?_
            exact ih14_663075 z663085 (gB_w bz663085 (by decide) (by decide)) (by have qa0 : Int32.toInt 0 = 0 := (by decide); omega) (fun k e1 ht => kt14_663075 k e1 (fun R c1 c2 c3 c4 c5 c6 c7 c8 c9 => c2 g663074 z663080 z663085 k e1 bg663074 r663079 hz663080 r663082 r663084 ez663085 (ht R c1 c2 c3 c4 c5 c6 c7 c8 c9))) (by have qa0 : Int32.toInt 0 = 0 := (by decide); omega)
          · have r663086 : g663074.toInt ≤ z657164.toInt := gC_nlt hc663083
            refine G_iload 0 dr_cJ1_indexOf_5af95_59 rfl ?_
            refine G_iconst 1 dr_cJ1_indexOf_5af95_61 (by decide +kernel) ?_
            refine G_iadd dr_cJ1_indexOf_5af95_62 (G_nam fun z663087 hz663087 => ?_)
            have ez663087 : z663087.toInt = g663074.toInt + 1 := by rw [gI_add hz663087 bg663074' (gBl (show Int32.toInt 1 = 1 by decide)) (by decide) (by decide), show Int32.toInt 1 = 1 from by decide]
            have bz663087 : gB z663087 (-2147483645) 16777216 := gB_add (gI_add hz663087 bg663074' (gBl (show Int32.toInt 1 = 1 by decide)) (by decide) (by decide)) bg663074' (gBl (show Int32.toInt 1 = 1 by decide)) (by decide) (by decide)
            refine G_istore (L' := [(8, .int z663087), (7, .int g663074), (6, .int z657164), (5, .int z657163), (0, .ref qs657153), (1, .int p657155), (2, .ref q657152), (3, .int p657156), (4, .int 0)]) dr_cJ1_indexOf_5af95_63 (Nat.le_of_ble_eq_true rfl) rfl ?_
            refine G_iload 0 dr_cJ1_indexOf_5af95_65 rfl ?_
            refine G_iload_n 7 dr_cJ1_indexOf_5af95_67 rfl ?_
            refine G_iadd dr_cJ1_indexOf_5af95_68 (G_nam fun z663088 hz663088 => ?_)
            have ez663088 : z663088.toInt = z663087.toInt + p657156.toInt := by rw [gI_add hz663088 bz663087 bp657156 (by decide) (by decide)]
            have bz663088 : gB z663088 (-2147483644) 33554432 := gB_add (gI_add hz663088 bz663087 bp657156 (by decide) (by decide)) bz663087 bp657156 (by decide) (by decide)
            refine G_iconst 1 dr_cJ1_indexOf_5af95_69 (by decide +kernel) ?_
            refine G_isub dr_cJ1_indexOf_5af95_70 (G_nam fun z663089 hz663089 => ?_)
            have ez663089 : z663089.toInt = z663088.toInt - 1 := by rw [gI_sub hz663089 bz663088 (gBl (show Int32.toInt 1 = 1 by decide)) (by decide) (by decide), show Int32.toInt 1 = 1 from by decide]
            have bz663089 : gB z663089 (-2147483645) 33554431 := gB_sub (gI_sub hz663089 bz663088 (gBl (show Int32.toInt 1 = 1 by decide)) (by decide) (by decide)) bz663088 (gBl (show Int32.toInt 1 = 1 by decide)) (by decide) (by decide)
            refine G_istore (L' := [(9, .int z663089), (8, .int z663087), (7, .int g663074), (6, .int z657164), (5, .int z657163), (0, .ref qs657153), (1, .int p657155), (2, .ref q657152), (3, .int p657156), (4, .int 0)]) dr_cJ1_indexOf_5af95_71 (Nat.le_of_ble_eq_true rfl) rfl ?_
            refine G_iconst 1 dr_cJ1_indexOf_5af95_73 (by decide +kernel) ?_
            refine G_istore (L' := [(10, .int 1), (9, .int z663089), (8, .int z663087), (7, .int g663074), (6, .int z657164), (5, .int z657163), (0, .ref qs657153), (1, .int p657155), (2, .ref q657152), (3, .int p657156), (4, .int 0)]) dr_cJ1_indexOf_5af95_74 (Nat.le_of_ble_eq_true rfl) rfl ?_
            have hlp76_663212 : ∀ (n76_663212 : Nat) (g663207 : Int32) (g663208 : Int32), gB g663207 1 16777217 → gB g663208 (-2147483645) 33554431 → 0 ≤ g663208.toInt → g663207.toInt = g663208.toInt - g663074.toInt → 1 ≤ g663207.toInt → g663208.toInt ≤ z663089.toInt → (∀ (k : Nat) (e1 : Int32), tl_RStringLatin1_indexOf2_76 z663089 bs657154 f657157 g663207 g663208 k e1 → tl_RStringLatin1_indexOf2_76 z663089 bs657154 f657157 (1 : Int32) z663087 k e1) → ((z663089.toInt : Int) + 2 - g663208.toInt).toNat < n76_663212 → G (gV D I) l (gRm 0 0 0 0) (gMA (gV D I) (pp_657162_StringLatin1_indexOf D I P657150 F657151 q657152 qs657153 bs657154 p657155 p657156 f657157 n657158) gNA 0 0) ky_657162_StringLatin1_indexOf 76 [(10, .int g663207), (9, .int z663089), (8, .int g663208), (7, .int g663074), (6, .int z657164), (5, .int z657163), (0, .ref qs657153), (1, .int p657155), (2, .ref q657152), (3, .int p657156), (4, .int 0)] [] (va_pl P657150 F657151) 0 0 := by
              intro n76_663212
              induction n76_663212 with
              | zero => intro g663207 g663208 bg663207 bg663208 x663209 x663210 x663211 x663212 kt76_663212 hm76_663212; exact absurd hm76_663212 (Nat.not_lt_zero _)
              | succ n76_663212 ih76_663212 =>
                intro g663207 g663208 bg663207 bg663208 x663209 x663210 x663211 x663212 kt76_663212 hm76_663212
                refine G_iload 2 dr_cJ1_indexOf_5af95_76 rfl ?_
                refine G_iload 1 dr_cJ1_indexOf_5af95_78 rfl ?_
                refine G_icmp_ge 103 dr_cJ1_indexOf_5af95_80 (by decide +kernel) (fun hc663213 => ?_) (fun hc663213 => ?_)
                · have r663214 : z663089.toInt ≤ g663208.toInt := gC_le hc663213
                  have hx663215 : tl_RStringLatin1_indexOf2_76 z663089 bs657154 f657157 (1 : Int32) z663087 103 g663208 := kt76_663212 103 g663208 (fun R c1 c2 c3 => c1 g663207 g663208 bg663207 bg663208 r663214)
                  refine G_iload 2 dr_cJ1_indexOf_5af95_103 rfl ?_
                  refine G_iload 1 dr_cJ1_indexOf_5af95_105 rfl ?_
                  refine G_icmp_ne 113 dr_cJ1_indexOf_5af95_107 (by decide +kernel) (fun hc663216 => ?_) (fun hc663216 => ?_)
                  · have r663217 : g663208.toInt ≠ z663089.toInt := gC_ne hc663216
                    obtain ⟨z663218, hz663218⟩ : ∃ z : Int32, z = g663074 + Int32.ofInt 1 := ⟨_, rfl⟩
                    have ez663218 : z663218.toInt = g663074.toInt + 1 := gI_inc hz663218 (by decide) bg663074' (by decide) (by decide)
                    have bz663218 : gB z663218 (-2147483645) 16777216 := ⟨by omega, by omega⟩
                    refine G_iinc (L' := [(7, .int z663218), (10, .int g663207), (9, .int z663089), (8, .int g663208), (6, .int z657164), (5, .int z657163), (0, .ref qs657153), (1, .int p657155), (2, .ref q657152), (3, .int p657156), (4, .int 0)]) z663218 3 dr_cJ1_indexOf_5af95_113 rfl hz663218.symm (Nat.le_of_ble_eq_true rfl) rfl ?_
                    refine G_goto 14 dr_cJ1_indexOf_5af95_116 (by decide +kernel) ?_
                    refine G_lv (L' := [(7, .int z663218), (6, .int z657164), (5, .int z657163), (0, .ref qs657153), (1, .int p657155), (2, .ref q657152), (3, .int p657156), (4, .int 0)]) [0, 4, 5, 6, 7, 8, 9, 10] rfl ?_
                    exact ih14_663075 z663218 (gB_w bz663218 (by decide) (by decide)) (by have qa0 : Int32.toInt 0 = 0 := (by decide); omega) (fun k e1 ht => kt14_663075 k e1 (fun R c1 c2 c3 c4 c5 c6 c7 c8 c9 => c3 g663074 z663080 z663087 z663088 z663089 g663208 z663218 k e1 bg663074 r663079 hz663080 r663082 r663086 ez663087 ez663088 ez663089 hx663215 r663217 ez663218 (ht R c1 c2 c3 c4 c5 c6 c7 c8 c9))) (by have qa0 : Int32.toInt 0 = 0 := (by decide); omega)
                  · have r663219 : g663208.toInt = z663089.toInt := gC_eq hc663216
                    have hx663220 : tl_RStringLatin1_indexOf2_14 z657164 bs657154 z657163 p657156 f657157 (0 : Int32) 110 g663074 := kt14_663075 110 g663074 (fun R c1 c2 c3 c4 c5 c6 c7 c8 c9 => c4 g663074 z663080 z663087 z663088 z663089 g663208 bg663074 r663079 hz663080 r663082 r663086 ez663087 ez663088 ez663089 hx663215 r663219)
                    refine G_iload 3 dr_cJ1_indexOf_5af95_110 rfl ?_
                    exact G_iretA dr_cJ1_indexOf_5af95_112 rfl (Nat.le_of_ble_eq_true rfl) (Nat.le_of_ble_eq_true rfl) ⟨g663074, rfl, rfl, (Nat.le_of_ble_eq_true rfl), (Nat.le_of_ble_eq_true rfl), bg663074', (by have qa0 : Int32.toInt 0 = 0 := (by decide); omega), (by first | exact ixP_of (by assumption) (by assumption) (by omega) | exact absurd (show False by omega) not_false), (fun R c1 c2 => c2 z657163 z657164 g663074 hz657163 bz657163 ez657164 hx663220)⟩
                · have r663221 : g663208.toInt < z663089.toInt := gC_nle hc663213
                  have bg663208' : gB g663208 (-2147483645) 33554430 := ⟨by omega, by omega⟩
                  have bz663089' : gB z663089 (-2147483644) 33554431 := ⟨by omega, by omega⟩
                  refine G_aload_n 6 dr_cJ1_indexOf_5af95_83 rfl ?_
                  refine G_iload 2 dr_cJ1_indexOf_5af95_84 rfl ?_
                  refine G_kbald (f := fun j => bs657154.getD j 0) dr_cJ1_indexOf_5af95_86 hbs657154 (gB_inr (by omega) (by omega)) (G_nam fun z663222 hz663222 => ?_)
                  have bz663222 : gB z663222 (-2147483648) 2147483647 := gB_any z663222
                  refine G_aload_n 8 dr_cJ1_indexOf_5af95_87 rfl ?_
                  refine G_iload 0 dr_cJ1_indexOf_5af95_88 rfl ?_
                  refine Gp_bald 1 hmq657152 heq657152 dr_cJ1_indexOf_5af95_90 rfl (gB_inr (by omega) (by omega)) (G_nam fun z663223 hz663223 => ?_)
                  have bz663223 : gB z663223 (-128) 127 := by rw [hz663223]; exact bf657157 _
                  refine G_icmp_ne 103 dr_cJ1_indexOf_5af95_91 (by decide +kernel) (fun hc663224 => ?_) (fun hc663224 => ?_)
                  · have r663225 : z663222.toInt ≠ z663223.toInt := gC_ne hc663224
                    have hx663226 : tl_RStringLatin1_indexOf2_76 z663089 bs657154 f657157 (1 : Int32) z663087 103 g663208 := kt76_663212 103 g663208 (fun R c1 c2 c3 => c2 g663207 g663208 z663222 z663223 bg663207 bg663208 r663221 hz663222 hz663223 bz663223 r663225)
                    refine G_iload 2 dr_cJ1_indexOf_5af95_103 rfl ?_
                    refine G_iload 1 dr_cJ1_indexOf_5af95_105 rfl ?_
                    refine G_icmp_ne 113 dr_cJ1_indexOf_5af95_107 (by decide +kernel) (fun hc663227 => ?_) (fun hc663227 => ?_)
                    · have r663228 : g663208.toInt ≠ z663089.toInt := gC_ne hc663227
                      obtain ⟨z663229, hz663229⟩ : ∃ z : Int32, z = g663074 + Int32.ofInt 1 := ⟨_, rfl⟩
                      have ez663229 : z663229.toInt = g663074.toInt + 1 := gI_inc hz663229 (by decide) bg663074' (by decide) (by decide)
                      have bz663229 : gB z663229 (-2147483645) 16777216 := ⟨by omega, by omega⟩
                      refine G_iinc (L' := [(7, .int z663229), (10, .int g663207), (9, .int z663089), (8, .int g663208), (6, .int z657164), (5, .int z657163), (0, .ref qs657153), (1, .int p657155), (2, .ref q657152), (3, .int p657156), (4, .int 0)]) z663229 3 dr_cJ1_indexOf_5af95_113 rfl hz663229.symm (Nat.le_of_ble_eq_true rfl) rfl ?_
                      refine G_goto 14 dr_cJ1_indexOf_5af95_116 (by decide +kernel) ?_
                      refine G_lv (L' := [(7, .int z663229), (6, .int z657164), (5, .int z657163), (0, .ref qs657153), (1, .int p657155), (2, .ref q657152), (3, .int p657156), (4, .int 0)]) [0, 4, 5, 6, 7, 8, 9, 10] rfl ?_
                      exact ih14_663075 z663229 (gB_w bz663229 (by decide) (by decide)) (by have qa0 : Int32.toInt 0 = 0 := (by decide); omega) (fun k e1 ht => kt14_663075 k e1 (fun R c1 c2 c3 c4 c5 c6 c7 c8 c9 => c3 g663074 z663080 z663087 z663088 z663089 g663208 z663229 k e1 bg663074 r663079 hz663080 r663082 r663086 ez663087 ez663088 ez663089 hx663226 r663228 ez663229 (ht R c1 c2 c3 c4 c5 c6 c7 c8 c9))) (by have qa0 : Int32.toInt 0 = 0 := (by decide); omega)
                    · have r663230 : g663208.toInt = z663089.toInt := gC_eq hc663227
                      have bg663208'' : gB g663208 (-2147483644) 33554430 := ⟨by omega, by omega⟩
                      have bz663089'' : gB z663089 (-2147483644) 33554430 := ⟨by omega, by omega⟩
                      have hx663231 : tl_RStringLatin1_indexOf2_14 z657164 bs657154 z657163 p657156 f657157 (0 : Int32) 110 g663074 := kt14_663075 110 g663074 (fun R c1 c2 c3 c4 c5 c6 c7 c8 c9 => c4 g663074 z663080 z663087 z663088 z663089 g663208 bg663074 r663079 hz663080 r663082 r663086 ez663087 ez663088 ez663089 hx663226 r663230)
                      refine G_iload 3 dr_cJ1_indexOf_5af95_110 rfl ?_
                      exact G_iretA dr_cJ1_indexOf_5af95_112 rfl (Nat.le_of_ble_eq_true rfl) (Nat.le_of_ble_eq_true rfl) ⟨g663074, rfl, rfl, (Nat.le_of_ble_eq_true rfl), (Nat.le_of_ble_eq_true rfl), bg663074', (by have qa0 : Int32.toInt 0 = 0 := (by decide); omega), (by first | exact ixP_of (by assumption) (by assumption) (by omega) | exact absurd (show False by omega) not_false), (fun R c1 c2 => c2 z657163 z657164 g663074 hz657163 bz657163 ez657164 hx663231)⟩
                  · have r663232 : z663222.toInt = z663223.toInt := gC_eq hc663224
                    have bz663222' : gB z663222 (-128) 127 := ⟨by omega, by omega⟩
                    obtain ⟨z663233, hz663233⟩ : ∃ z : Int32, z = g663208 + Int32.ofInt 1 := ⟨_, rfl⟩
                    have ez663233 : z663233.toInt = g663208.toInt + 1 := gI_inc hz663233 (by decide) bg663208' (by decide) (by decide)
                    have bz663233 : gB z663233 (-2147483644) 33554431 := ⟨by omega, by omega⟩
                    refine G_iinc (L' := [(8, .int z663233), (10, .int g663207), (9, .int z663089), (7, .int g663074), (6, .int z657164), (5, .int z657163), (0, .ref qs657153), (1, .int p657155), (2, .ref q657152), (3, .int p657156), (4, .int 0)]) z663233 2 dr_cJ1_indexOf_5af95_94 rfl hz663233.symm (Nat.le_of_ble_eq_true rfl) rfl ?_
                    have bg663207' : gB g663207 1 16777216 := ⟨by omega, by omega⟩
                    obtain ⟨z663234, hz663234⟩ : ∃ z : Int32, z = g663207 + Int32.ofInt 1 := ⟨_, rfl⟩
                    have ez663234 : z663234.toInt = g663207.toInt + 1 := gI_inc hz663234 (by decide) bg663207' (by decide) (by decide)
                    have bz663234 : gB z663234 2 16777217 := ⟨by omega, by omega⟩
                    refine G_iinc (L' := [(10, .int z663234), (8, .int z663233), (9, .int z663089), (7, .int g663074), (6, .int z657164), (5, .int z657163), (0, .ref qs657153), (1, .int p657155), (2, .ref q657152), (3, .int p657156), (4, .int 0)]) z663234 1 dr_cJ1_indexOf_5af95_97 rfl hz663234.symm (Nat.le_of_ble_eq_true rfl) rfl ?_
                    refine G_goto 76 dr_cJ1_indexOf_5af95_100 (by decide +kernel) ?_
                    refine G_lv (L' := [(10, .int z663234), (9, .int z663089), (8, .int z663233), (7, .int g663074), (6, .int z657164), (5, .int z657163), (0, .ref qs657153), (1, .int p657155), (2, .ref q657152), (3, .int p657156), (4, .int 0)]) [0, 2, 1, 3, 4, 5, 6, 7, 8, 9, 10] rfl ?_
                    exact ih76_663212 z663234 z663233 (gB_w bz663234 (by decide) (by decide)) (gB_w bz663233 (by decide) (by decide)) (by have qa0 : Int32.toInt 0 = 0 := (by decide); omega) (by have qa0 : Int32.toInt 0 = 0 := (by decide); omega) (by have qa0 : Int32.toInt 0 = 0 := (by decide); omega) (by have qa0 : Int32.toInt 0 = 0 := (by decide); omega) (fun k e1 ht => kt76_663212 k e1 (fun R c1 c2 c3 => c3 g663207 g663208 z663222 z663223 z663233 z663234 k e1 bg663207 bg663208 r663221 hz663222 hz663223 bz663223 r663232 ez663233 ez663234 (ht R c1 c2 c3))) (by have qa0 : Int32.toInt 0 = 0 := (by decide); omega)
            exact hlp76_663212 (((z663089.toInt : Int) + 2 - z663087.toInt).toNat + 1) 1 z663087 (gB_w (gBl (show Int32.toInt 1 = 1 by decide)) (by decide) (by decide)) (gB_w bz663087 (by decide) (by decide)) (by have qa0 : Int32.toInt 0 = 0 := (by decide); have qa1 : Int32.toInt 1 = 1 := (by decide); omega) (by have qa0 : Int32.toInt 0 = 0 := (by decide); have qa1 : Int32.toInt 1 = 1 := (by decide); omega) (by have qa0 : Int32.toInt 0 = 0 := (by decide); have qa1 : Int32.toInt 1 = 1 := (by decide); omega) (by have qa0 : Int32.toInt 0 = 0 := (by decide); have qa1 : Int32.toInt 1 = 1 := (by decide); omega) (fun k e1 ht => ht) (Nat.lt_succ_self _)
        · have r663235 : z663080.toInt ≠ z657163.toInt := gC_ne hc663081
          have hlp30_663847 : ∀ (n30_663847 : Nat) (g663845 : Int32), gB g663845 (-2147483646) 16777215 → 0 ≤ g663845.toInt → g663074.toInt ≤ g663845.toInt → (∀ (k : Nat) (e1 : Int32), tl_RStringLatin1_indexOf2_30 z657164 bs657154 z657163 g663845 k e1 → tl_RStringLatin1_indexOf2_30 z657164 bs657154 z657163 g663074 k e1) → ((z657164.toInt : Int) + 2 - g663845.toInt).toNat < n30_663847 → G (gV D I) l (gRm 0 0 0 0) (gMA (gV D I) (pp_657162_StringLatin1_indexOf D I P657150 F657151 q657152 qs657153 bs657154 p657155 p657156 f657157 n657158) gNA 0 0) ky_657162_StringLatin1_indexOf 30 [(7, .int g663845), (6, .int z657164), (5, .int z657163), (0, .ref qs657153), (1, .int p657155), (2, .ref q657152), (3, .int p657156), (4, .int 0)] [] (va_pl P657150 F657151) 0 0 := by
            intro n30_663847
            induction n30_663847 with
            | zero => intro g663845 bg663845 x663846 x663847 kt30_663847 hm30_663847; exact absurd hm30_663847 (Nat.not_lt_zero _)
            | succ n30_663847 ih30_663847 =>
              intro g663845 bg663845 x663846 x663847 kt30_663847 hm30_663847
              obtain ⟨z663848, hz663848⟩ : ∃ z : Int32, z = g663845 + Int32.ofInt 1 := ⟨_, rfl⟩
              have ez663848 : z663848.toInt = g663845.toInt + 1 := gI_inc hz663848 (by decide) bg663845 (by decide) (by decide)
              have bz663848 : gB z663848 (-2147483645) 16777216 := ⟨by omega, by omega⟩
              refine G_iinc (L' := [(7, .int z663848), (6, .int z657164), (5, .int z657163), (0, .ref qs657153), (1, .int p657155), (2, .ref q657152), (3, .int p657156), (4, .int 0)]) z663848 0 dr_cJ1_indexOf_5af95_30 rfl hz663848.symm (Nat.le_of_ble_eq_true rfl) rfl ?_
              refine G_iload 0 dr_cJ1_indexOf_5af95_33 rfl ?_
              refine G_iload 1 dr_cJ1_indexOf_5af95_35 rfl ?_
              refine G_icmp_gt 52 dr_cJ1_indexOf_5af95_37 (by decide +kernel) (fun hc663849 => ?_) (fun hc663849 => ?_)
              · have r663850 : z657164.toInt < z663848.toInt := gC_lt hc663849
                have bz663848' : gB z663848 (-16777215) 16777216 := ⟨by omega, by omega⟩
                have hx663851 : tl_RStringLatin1_indexOf2_30 z657164 bs657154 z657163 g663074 52 z663848 := kt30_663847 52 z663848 (fun R c1 c2 c3 => c1 g663845 z663848 bg663845 ez663848 r663850)
                refine G_iload 0 dr_cJ1_indexOf_5af95_52 rfl ?_
                refine G_iload 1 dr_cJ1_indexOf_5af95_54 rfl ?_
                refine G_icmp_gt 113 dr_cJ1_indexOf_5af95_56 (by decide +kernel) (fun hc663852 => ?_) (fun hc663852 => ?_)
                · have r663853 : z657164.toInt < z663848.toInt := gC_lt hc663852
                  obtain ⟨z663854, hz663854⟩ : ∃ z : Int32, z = z663848 + Int32.ofInt 1 := ⟨_, rfl⟩
                  have ez663854 : z663854.toInt = z663848.toInt + 1 := gI_inc hz663854 (by decide) bz663848' (by decide) (by decide)
                  have bz663854 : gB z663854 (-16777214) 16777217 := ⟨by omega, by omega⟩
                  refine G_iinc (L' := [(7, .int z663854), (6, .int z657164), (5, .int z657163), (0, .ref qs657153), (1, .int p657155), (2, .ref q657152), (3, .int p657156), (4, .int 0)]) z663854 0 dr_cJ1_indexOf_5af95_113 rfl hz663854.symm (Nat.le_of_ble_eq_true rfl) rfl ?_
                  refine G_goto 14 dr_cJ1_indexOf_5af95_116 (by decide +kernel) ?_
                  exact ih14_663075 z663854 (gB_w bz663854 (by decide) (by decide)) (by have qa0 : Int32.toInt 0 = 0 := (by decide); omega) (fun k e1 ht => kt14_663075 k e1 (fun R c1 c2 c3 c4 c5 c6 c7 c8 c9 => c5 g663074 z663080 z663848 z663854 k e1 bg663074 r663079 hz663080 r663235 hx663851 r663853 ez663854 (ht R c1 c2 c3 c4 c5 c6 c7 c8 c9))) (by have qa0 : Int32.toInt 0 = 0 := (by decide); omega)
                · have r663855 : z663848.toInt ≤ z657164.toInt := gC_nlt hc663852
                  have bz663848'' : gB z663848 (-16777215) 16777215 := ⟨by omega, by omega⟩
                  have bz657164' : gB z657164 (-16777215) 16777215 := ⟨by omega, by omega⟩
                  refine G_iload 0 dr_cJ1_indexOf_5af95_59 rfl ?_
                  refine G_iconst 1 dr_cJ1_indexOf_5af95_61 (by decide +kernel) ?_
                  refine G_iadd dr_cJ1_indexOf_5af95_62 (G_nam fun z663856 hz663856 => ?_)
                  have ez663856 : z663856.toInt = z663848.toInt + 1 := by rw [gI_add hz663856 bz663848'' (gBl (show Int32.toInt 1 = 1 by decide)) (by decide) (by decide), show Int32.toInt 1 = 1 from by decide]
                  have bz663856 : gB z663856 (-16777214) 16777216 := gB_add (gI_add hz663856 bz663848'' (gBl (show Int32.toInt 1 = 1 by decide)) (by decide) (by decide)) bz663848'' (gBl (show Int32.toInt 1 = 1 by decide)) (by decide) (by decide)
                  refine G_istore (L' := [(8, .int z663856), (7, .int z663848), (6, .int z657164), (5, .int z657163), (0, .ref qs657153), (1, .int p657155), (2, .ref q657152), (3, .int p657156), (4, .int 0)]) dr_cJ1_indexOf_5af95_63 (Nat.le_of_ble_eq_true rfl) rfl ?_
                  refine G_iload 0 dr_cJ1_indexOf_5af95_65 rfl ?_
                  refine G_iload_n 7 dr_cJ1_indexOf_5af95_67 rfl ?_
                  refine G_iadd dr_cJ1_indexOf_5af95_68 (G_nam fun z663857 hz663857 => ?_)
                  have ez663857 : z663857.toInt = z663856.toInt + p657156.toInt := by rw [gI_add hz663857 bz663856 bp657156 (by decide) (by decide)]
                  have bz663857 : gB z663857 (-16777213) 33554432 := gB_add (gI_add hz663857 bz663856 bp657156 (by decide) (by decide)) bz663856 bp657156 (by decide) (by decide)
                  refine G_iconst 1 dr_cJ1_indexOf_5af95_69 (by decide +kernel) ?_
                  refine G_isub dr_cJ1_indexOf_5af95_70 (G_nam fun z663858 hz663858 => ?_)
                  have ez663858 : z663858.toInt = z663857.toInt - 1 := by rw [gI_sub hz663858 bz663857 (gBl (show Int32.toInt 1 = 1 by decide)) (by decide) (by decide), show Int32.toInt 1 = 1 from by decide]
                  have bz663858 : gB z663858 (-16777214) 33554431 := gB_sub (gI_sub hz663858 bz663857 (gBl (show Int32.toInt 1 = 1 by decide)) (by decide) (by decide)) bz663857 (gBl (show Int32.toInt 1 = 1 by decide)) (by decide) (by decide)
                  refine G_istore (L' := [(9, .int z663858), (8, .int z663856), (7, .int z663848), (6, .int z657164), (5, .int z657163), (0, .ref qs657153), (1, .int p657155), (2, .ref q657152), (3, .int p657156), (4, .int 0)]) dr_cJ1_indexOf_5af95_71 (Nat.le_of_ble_eq_true rfl) rfl ?_
                  refine G_iconst 1 dr_cJ1_indexOf_5af95_73 (by decide +kernel) ?_
                  refine G_istore (L' := [(10, .int 1), (9, .int z663858), (8, .int z663856), (7, .int z663848), (6, .int z657164), (5, .int z657163), (0, .ref qs657153), (1, .int p657155), (2, .ref q657152), (3, .int p657156), (4, .int 0)]) dr_cJ1_indexOf_5af95_74 (Nat.le_of_ble_eq_true rfl) rfl ?_
                  have hlp76_663981 : ∀ (n76_663981 : Nat) (g663976 : Int32) (g663977 : Int32), gB g663976 1 16777217 → gB g663977 (-16777214) 33554431 → 0 ≤ g663977.toInt → g663976.toInt = g663977.toInt - z663848.toInt → 1 ≤ g663976.toInt → g663977.toInt ≤ z663858.toInt → (∀ (k : Nat) (e1 : Int32), tl_RStringLatin1_indexOf2_76_2 z663858 bs657154 f657157 g663976 g663977 k e1 → tl_RStringLatin1_indexOf2_76_2 z663858 bs657154 f657157 (1 : Int32) z663856 k e1) → ((z663858.toInt : Int) + 2 - g663977.toInt).toNat < n76_663981 → G (gV D I) l (gRm 0 0 0 0) (gMA (gV D I) (pp_657162_StringLatin1_indexOf D I P657150 F657151 q657152 qs657153 bs657154 p657155 p657156 f657157 n657158) gNA 0 0) ky_657162_StringLatin1_indexOf 76 [(10, .int g663976), (9, .int z663858), (8, .int g663977), (7, .int z663848), (6, .int z657164), (5, .int z657163), (0, .ref qs657153), (1, .int p657155), (2, .ref q657152), (3, .int p657156), (4, .int 0)] [] (va_pl P657150 F657151) 0 0 := by
                    intro n76_663981
                    induction n76_663981 with
                    | zero => intro g663976 g663977 bg663976 bg663977 x663978 x663979 x663980 x663981 kt76_663981 hm76_663981; exact absurd hm76_663981 (Nat.not_lt_zero _)
                    | succ n76_663981 ih76_663981 =>
                      intro g663976 g663977 bg663976 bg663977 x663978 x663979 x663980 x663981 kt76_663981 hm76_663981
                      refine G_iload 2 dr_cJ1_indexOf_5af95_76 rfl ?_
                      refine G_iload 1 dr_cJ1_indexOf_5af95_78 rfl ?_
                      refine G_icmp_ge 103 dr_cJ1_indexOf_5af95_80 (by decide +kernel) (fun hc663982 => ?_) (fun hc663982 => ?_)
                      · have r663983 : z663858.toInt ≤ g663977.toInt := gC_le hc663982
                        have hx663984 : tl_RStringLatin1_indexOf2_76_2 z663858 bs657154 f657157 (1 : Int32) z663856 103 g663977 := kt76_663981 103 g663977 (fun R c1 c2 c3 => c1 g663976 g663977 bg663976 bg663977 r663983)
                        refine G_iload 2 dr_cJ1_indexOf_5af95_103 rfl ?_
                        refine G_iload 1 dr_cJ1_indexOf_5af95_105 rfl ?_
                        refine G_icmp_ne 113 dr_cJ1_indexOf_5af95_107 (by decide +kernel) (fun hc663985 => ?_) (fun hc663985 => ?_)
                        · have r663986 : g663977.toInt ≠ z663858.toInt := gC_ne hc663985
                          obtain ⟨z663987, hz663987⟩ : ∃ z : Int32, z = z663848 + Int32.ofInt 1 := ⟨_, rfl⟩
                          have ez663987 : z663987.toInt = z663848.toInt + 1 := gI_inc hz663987 (by decide) bz663848'' (by decide) (by decide)
                          have bz663987 : gB z663987 (-16777214) 16777216 := ⟨by omega, by omega⟩
                          refine G_iinc (L' := [(7, .int z663987), (10, .int g663976), (9, .int z663858), (8, .int g663977), (6, .int z657164), (5, .int z657163), (0, .ref qs657153), (1, .int p657155), (2, .ref q657152), (3, .int p657156), (4, .int 0)]) z663987 3 dr_cJ1_indexOf_5af95_113 rfl hz663987.symm (Nat.le_of_ble_eq_true rfl) rfl ?_
                          refine G_goto 14 dr_cJ1_indexOf_5af95_116 (by decide +kernel) ?_
                          refine G_lv (L' := [(7, .int z663987), (6, .int z657164), (5, .int z657163), (0, .ref qs657153), (1, .int p657155), (2, .ref q657152), (3, .int p657156), (4, .int 0)]) [0, 4, 5, 6, 7, 8, 9, 10] rfl ?_
                          exact ih14_663075 z663987 (gB_w bz663987 (by decide) (by decide)) (by have qa0 : Int32.toInt 0 = 0 := (by decide); omega) (fun k e1 ht => kt14_663075 k e1 (fun R c1 c2 c3 c4 c5 c6 c7 c8 c9 => c6 g663074 z663080 z663848 z663856 z663857 z663858 g663977 z663987 k e1 bg663074 r663079 hz663080 r663235 hx663851 r663855 ez663856 ez663857 ez663858 hx663984 r663986 ez663987 (ht R c1 c2 c3 c4 c5 c6 c7 c8 c9))) (by have qa0 : Int32.toInt 0 = 0 := (by decide); omega)
                        · have r663988 : g663977.toInt = z663858.toInt := gC_eq hc663985
                          have hx663989 : tl_RStringLatin1_indexOf2_14 z657164 bs657154 z657163 p657156 f657157 (0 : Int32) 110 z663848 := kt14_663075 110 z663848 (fun R c1 c2 c3 c4 c5 c6 c7 c8 c9 => c7 g663074 z663080 z663848 z663856 z663857 z663858 g663977 bg663074 r663079 hz663080 r663235 hx663851 r663855 ez663856 ez663857 ez663858 hx663984 r663988)
                          refine G_iload 3 dr_cJ1_indexOf_5af95_110 rfl ?_
                          exact G_iretA dr_cJ1_indexOf_5af95_112 rfl (Nat.le_of_ble_eq_true rfl) (Nat.le_of_ble_eq_true rfl) ⟨z663848, rfl, rfl, (Nat.le_of_ble_eq_true rfl), (Nat.le_of_ble_eq_true rfl), (gB_w bz663848'' (by decide) (by decide)), (by have qa0 : Int32.toInt 0 = 0 := (by decide); omega), (by first | exact ixP_of (by assumption) (by assumption) (by omega) | exact absurd (show False by omega) not_false), (fun R c1 c2 => c2 z657163 z657164 z663848 hz657163 bz657163 ez657164 hx663989)⟩
                      · have r663990 : g663977.toInt < z663858.toInt := gC_nle hc663982
                        have bg663977' : gB g663977 (-16777214) 33554430 := ⟨by omega, by omega⟩
                        have bz663858' : gB z663858 (-16777213) 33554431 := ⟨by omega, by omega⟩
                        refine G_aload_n 6 dr_cJ1_indexOf_5af95_83 rfl ?_
                        refine G_iload 2 dr_cJ1_indexOf_5af95_84 rfl ?_
                        refine G_kbald (f := fun j => bs657154.getD j 0) dr_cJ1_indexOf_5af95_86 hbs657154 (gB_inr (by omega) (by omega)) (G_nam fun z663991 hz663991 => ?_)
                        have bz663991 : gB z663991 (-2147483648) 2147483647 := gB_any z663991
                        refine G_aload_n 8 dr_cJ1_indexOf_5af95_87 rfl ?_
                        refine G_iload 0 dr_cJ1_indexOf_5af95_88 rfl ?_
                        refine Gp_bald 1 hmq657152 heq657152 dr_cJ1_indexOf_5af95_90 rfl (gB_inr (by omega) (by omega)) (G_nam fun z663992 hz663992 => ?_)
                        have bz663992 : gB z663992 (-128) 127 := by rw [hz663992]; exact bf657157 _
                        refine G_icmp_ne 103 dr_cJ1_indexOf_5af95_91 (by decide +kernel) (fun hc663993 => ?_) (fun hc663993 => ?_)
                        · have r663994 : z663991.toInt ≠ z663992.toInt := gC_ne hc663993
                          have hx663995 : tl_RStringLatin1_indexOf2_76_2 z663858 bs657154 f657157 (1 : Int32) z663856 103 g663977 := kt76_663981 103 g663977 (fun R c1 c2 c3 => c2 g663976 g663977 z663991 z663992 bg663976 bg663977 r663990 hz663991 hz663992 bz663992 r663994)
                          refine G_iload 2 dr_cJ1_indexOf_5af95_103 rfl ?_
                          refine G_iload 1 dr_cJ1_indexOf_5af95_105 rfl ?_
                          refine G_icmp_ne 113 dr_cJ1_indexOf_5af95_107 (by decide +kernel) (fun hc663996 => ?_) (fun hc663996 => ?_)
                          · have r663997 : g663977.toInt ≠ z663858.toInt := gC_ne hc663996
                            obtain ⟨z663998, hz663998⟩ : ∃ z : Int32, z = z663848 + Int32.ofInt 1 := ⟨_, rfl⟩
                            have ez663998 : z663998.toInt = z663848.toInt + 1 := gI_inc hz663998 (by decide) bz663848'' (by decide) (by decide)
                            have bz663998 : gB z663998 (-16777214) 16777216 := ⟨by omega, by omega⟩
                            refine G_iinc (L' := [(7, .int z663998), (10, .int g663976), (9, .int z663858), (8, .int g663977), (6, .int z657164), (5, .int z657163), (0, .ref qs657153), (1, .int p657155), (2, .ref q657152), (3, .int p657156), (4, .int 0)]) z663998 3 dr_cJ1_indexOf_5af95_113 rfl hz663998.symm (Nat.le_of_ble_eq_true rfl) rfl ?_
                            refine G_goto 14 dr_cJ1_indexOf_5af95_116 (by decide +kernel) ?_
                            refine G_lv (L' := [(7, .int z663998), (6, .int z657164), (5, .int z657163), (0, .ref qs657153), (1, .int p657155), (2, .ref q657152), (3, .int p657156), (4, .int 0)]) [0, 4, 5, 6, 7, 8, 9, 10] rfl ?_
                            exact ih14_663075 z663998 (gB_w bz663998 (by decide) (by decide)) (by have qa0 : Int32.toInt 0 = 0 := (by decide); omega) (fun k e1 ht => kt14_663075 k e1 (fun R c1 c2 c3 c4 c5 c6 c7 c8 c9 => c6 g663074 z663080 z663848 z663856 z663857 z663858 g663977 z663998 k e1 bg663074 r663079 hz663080 r663235 hx663851 r663855 ez663856 ez663857 ez663858 hx663995 r663997 ez663998 (ht R c1 c2 c3 c4 c5 c6 c7 c8 c9))) (by have qa0 : Int32.toInt 0 = 0 := (by decide); omega)
                          · have r663999 : g663977.toInt = z663858.toInt := gC_eq hc663996
                            have bg663977'' : gB g663977 (-16777213) 33554430 := ⟨by omega, by omega⟩
                            have bz663858'' : gB z663858 (-16777213) 33554430 := ⟨by omega, by omega⟩
                            have hx664000 : tl_RStringLatin1_indexOf2_14 z657164 bs657154 z657163 p657156 f657157 (0 : Int32) 110 z663848 := kt14_663075 110 z663848 (fun R c1 c2 c3 c4 c5 c6 c7 c8 c9 => c7 g663074 z663080 z663848 z663856 z663857 z663858 g663977 bg663074 r663079 hz663080 r663235 hx663851 r663855 ez663856 ez663857 ez663858 hx663995 r663999)
                            refine G_iload 3 dr_cJ1_indexOf_5af95_110 rfl ?_
                            exact G_iretA dr_cJ1_indexOf_5af95_112 rfl (Nat.le_of_ble_eq_true rfl) (Nat.le_of_ble_eq_true rfl) ⟨z663848, rfl, rfl, (Nat.le_of_ble_eq_true rfl), (Nat.le_of_ble_eq_true rfl), (gB_w bz663848'' (by decide) (by decide)), (by have qa0 : Int32.toInt 0 = 0 := (by decide); omega), (by first | exact ixP_of (by assumption) (by assumption) (by omega) | exact absurd (show False by omega) not_false), (fun R c1 c2 => c2 z657163 z657164 z663848 hz657163 bz657163 ez657164 hx664000)⟩
                        · have r664001 : z663991.toInt = z663992.toInt := gC_eq hc663993
                          have bz663991' : gB z663991 (-128) 127 := ⟨by omega, by omega⟩
                          obtain ⟨z664002, hz664002⟩ : ∃ z : Int32, z = g663977 + Int32.ofInt 1 := ⟨_, rfl⟩
                          have ez664002 : z664002.toInt = g663977.toInt + 1 := gI_inc hz664002 (by decide) bg663977' (by decide) (by decide)
                          have bz664002 : gB z664002 (-16777213) 33554431 := ⟨by omega, by omega⟩
                          refine G_iinc (L' := [(8, .int z664002), (10, .int g663976), (9, .int z663858), (7, .int z663848), (6, .int z657164), (5, .int z657163), (0, .ref qs657153), (1, .int p657155), (2, .ref q657152), (3, .int p657156), (4, .int 0)]) z664002 2 dr_cJ1_indexOf_5af95_94 rfl hz664002.symm (Nat.le_of_ble_eq_true rfl) rfl ?_
                          have bg663976' : gB g663976 1 16777216 := ⟨by omega, by omega⟩
                          obtain ⟨z664003, hz664003⟩ : ∃ z : Int32, z = g663976 + Int32.ofInt 1 := ⟨_, rfl⟩
                          have ez664003 : z664003.toInt = g663976.toInt + 1 := gI_inc hz664003 (by decide) bg663976' (by decide) (by decide)
                          have bz664003 : gB z664003 2 16777217 := ⟨by omega, by omega⟩
                          refine G_iinc (L' := [(10, .int z664003), (8, .int z664002), (9, .int z663858), (7, .int z663848), (6, .int z657164), (5, .int z657163), (0, .ref qs657153), (1, .int p657155), (2, .ref q657152), (3, .int p657156), (4, .int 0)]) z664003 1 dr_cJ1_indexOf_5af95_97 rfl hz664003.symm (Nat.le_of_ble_eq_true rfl) rfl ?_
                          refine G_goto 76 dr_cJ1_indexOf_5af95_100 (by decide +kernel) ?_
                          refine G_lv (L' := [(10, .int z664003), (9, .int z663858), (8, .int z664002), (7, .int z663848), (6, .int z657164), (5, .int z657163), (0, .ref qs657153), (1, .int p657155), (2, .ref q657152), (3, .int p657156), (4, .int 0)]) [0, 2, 1, 3, 4, 5, 6, 7, 8, 9, 10] rfl ?_
                          exact ih76_663981 z664003 z664002 (gB_w bz664003 (by decide) (by decide)) (gB_w bz664002 (by decide) (by decide)) (by have qa0 : Int32.toInt 0 = 0 := (by decide); omega) (by have qa0 : Int32.toInt 0 = 0 := (by decide); omega) (by have qa0 : Int32.toInt 0 = 0 := (by decide); omega) (by have qa0 : Int32.toInt 0 = 0 := (by decide); omega) (fun k e1 ht => kt76_663981 k e1 (fun R c1 c2 c3 => c3 g663976 g663977 z663991 z663992 z664002 z664003 k e1 bg663976 bg663977 r663990 hz663991 hz663992 bz663992 r664001 ez664002 ez664003 (ht R c1 c2 c3))) (by have qa0 : Int32.toInt 0 = 0 := (by decide); omega)
                  exact hlp76_663981 (((z663858.toInt : Int) + 2 - z663856.toInt).toNat + 1) 1 z663856 (gB_w (gBl (show Int32.toInt 1 = 1 by decide)) (by decide) (by decide)) (gB_w bz663856 (by decide) (by decide)) (by have qa0 : Int32.toInt 0 = 0 := (by decide); have qa1 : Int32.toInt 1 = 1 := (by decide); omega) (by have qa0 : Int32.toInt 0 = 0 := (by decide); have qa1 : Int32.toInt 1 = 1 := (by decide); omega) (by have qa0 : Int32.toInt 0 = 0 := (by decide); have qa1 : Int32.toInt 1 = 1 := (by decide); omega) (by have qa0 : Int32.toInt 0 = 0 := (by decide); have qa1 : Int32.toInt 1 = 1 := (by decide); omega) (fun k e1 ht => ht) (Nat.lt_succ_self _)
              · have r664004 : z663848.toInt ≤ z657164.toInt := gC_nlt hc663849
                have bz663848' : gB z663848 (-2147483645) 16777215 := ⟨by omega, by omega⟩
                refine G_aload_n 3 dr_cJ1_indexOf_5af95_40 rfl ?_
                refine G_iload 0 dr_cJ1_indexOf_5af95_41 rfl ?_
                refine G_kbald (f := fun j => bs657154.getD j 0) dr_cJ1_indexOf_5af95_43 hbs657154 (gB_inr (by omega) (by omega)) (G_nam fun z664005 hz664005 => ?_)
                have bz664005 : gB z664005 (-2147483648) 2147483647 := gB_any z664005
                refine G_iload 2 dr_cJ1_indexOf_5af95_44 rfl ?_
                refine G_icmp_eq 52 dr_cJ1_indexOf_5af95_46 (by decide +kernel) (fun hc664006 => ?_) (fun hc664006 => ?_)
                · have r664007 : z664005.toInt = z657163.toInt := gC_eq hc664006
                  have bz664005' : gB z664005 (-128) 127 := ⟨by omega, by omega⟩
                  have hx664008 : tl_RStringLatin1_indexOf2_30 z657164 bs657154 z657163 g663074 52 z663848 := kt30_663847 52 z663848 (fun R c1 c2 c3 => c2 g663845 z663848 z664005 bg663845 ez663848 r664004 hz664005 r664007)
                  refine G_iload 0 dr_cJ1_indexOf_5af95_52 rfl ?_
                  refine G_iload 1 dr_cJ1_indexOf_5af95_54 rfl ?_
                  refine G_icmp_gt 113 dr_cJ1_indexOf_5af95_56 (by decide +kernel) (fun hc664009 => ?_) (fun hc664009 => ?_)
                  · have r664010 : z657164.toInt < z663848.toInt := gC_lt hc664009
                    have bz657164' : gB z657164 (-16777216) 16777214 := ⟨by omega, by omega⟩
                    have bz663848'' : gB z663848 (-16777215) 16777215 := ⟨by omega, by omega⟩
                    obtain ⟨z664011, hz664011⟩ : ∃ z : Int32, z = z663848 + Int32.ofInt 1 := ⟨_, rfl⟩
                    have ez664011 : z664011.toInt = z663848.toInt + 1 := gI_inc hz664011 (by decide) bz663848'' (by decide) (by decide)
                    have bz664011 : gB z664011 (-16777214) 16777216 := ⟨by omega, by omega⟩
                    refine G_iinc (L' := [(7, .int z664011), (6, .int z657164), (5, .int z657163), (0, .ref qs657153), (1, .int p657155), (2, .ref q657152), (3, .int p657156), (4, .int 0)]) z664011 0 dr_cJ1_indexOf_5af95_113 rfl hz664011.symm (Nat.le_of_ble_eq_true rfl) rfl ?_
                    refine G_goto 14 dr_cJ1_indexOf_5af95_116 (by decide +kernel) ?_
                    exact ih14_663075 z664011 (gB_w bz664011 (by decide) (by decide)) (by have qa0 : Int32.toInt 0 = 0 := (by decide); omega) (fun k e1 ht => kt14_663075 k e1 (fun R c1 c2 c3 c4 c5 c6 c7 c8 c9 => c5 g663074 z663080 z663848 z664011 k e1 bg663074 r663079 hz663080 r663235 hx664008 r664010 ez664011 (ht R c1 c2 c3 c4 c5 c6 c7 c8 c9))) (by have qa0 : Int32.toInt 0 = 0 := (by decide); omega)
                  · have r664012 : z663848.toInt ≤ z657164.toInt := gC_nlt hc664009
                    refine G_iload 0 dr_cJ1_indexOf_5af95_59 rfl ?_
                    refine G_iconst 1 dr_cJ1_indexOf_5af95_61 (by decide +kernel) ?_
                    refine G_iadd dr_cJ1_indexOf_5af95_62 (G_nam fun z664013 hz664013 => ?_)
                    have ez664013 : z664013.toInt = z663848.toInt + 1 := by rw [gI_add hz664013 bz663848' (gBl (show Int32.toInt 1 = 1 by decide)) (by decide) (by decide), show Int32.toInt 1 = 1 from by decide]
                    have bz664013 : gB z664013 (-2147483644) 16777216 := gB_add (gI_add hz664013 bz663848' (gBl (show Int32.toInt 1 = 1 by decide)) (by decide) (by decide)) bz663848' (gBl (show Int32.toInt 1 = 1 by decide)) (by decide) (by decide)
                    refine G_istore (L' := [(8, .int z664013), (7, .int z663848), (6, .int z657164), (5, .int z657163), (0, .ref qs657153), (1, .int p657155), (2, .ref q657152), (3, .int p657156), (4, .int 0)]) dr_cJ1_indexOf_5af95_63 (Nat.le_of_ble_eq_true rfl) rfl ?_
                    refine G_iload 0 dr_cJ1_indexOf_5af95_65 rfl ?_
                    refine G_iload_n 7 dr_cJ1_indexOf_5af95_67 rfl ?_
                    refine G_iadd dr_cJ1_indexOf_5af95_68 (G_nam fun z664014 hz664014 => ?_)
                    have ez664014 : z664014.toInt = z664013.toInt + p657156.toInt := by rw [gI_add hz664014 bz664013 bp657156 (by decide) (by decide)]
                    have bz664014 : gB z664014 (-2147483643) 33554432 := gB_add (gI_add hz664014 bz664013 bp657156 (by decide) (by decide)) bz664013 bp657156 (by decide) (by decide)
                    refine G_iconst 1 dr_cJ1_indexOf_5af95_69 (by decide +kernel) ?_
                    refine G_isub dr_cJ1_indexOf_5af95_70 (G_nam fun z664015 hz664015 => ?_)
                    have ez664015 : z664015.toInt = z664014.toInt - 1 := by rw [gI_sub hz664015 bz664014 (gBl (show Int32.toInt 1 = 1 by decide)) (by decide) (by decide), show Int32.toInt 1 = 1 from by decide]
                    have bz664015 : gB z664015 (-2147483644) 33554431 := gB_sub (gI_sub hz664015 bz664014 (gBl (show Int32.toInt 1 = 1 by decide)) (by decide) (by decide)) bz664014 (gBl (show Int32.toInt 1 = 1 by decide)) (by decide) (by decide)
                    refine G_istore (L' := [(9, .int z664015), (8, .int z664013), (7, .int z663848), (6, .int z657164), (5, .int z657163), (0, .ref qs657153), (1, .int p657155), (2, .ref q657152), (3, .int p657156), (4, .int 0)]) dr_cJ1_indexOf_5af95_71 (Nat.le_of_ble_eq_true rfl) rfl ?_
                    refine G_iconst 1 dr_cJ1_indexOf_5af95_73 (by decide +kernel) ?_
                    refine G_istore (L' := [(10, .int 1), (9, .int z664015), (8, .int z664013), (7, .int z663848), (6, .int z657164), (5, .int z657163), (0, .ref qs657153), (1, .int p657155), (2, .ref q657152), (3, .int p657156), (4, .int 0)]) dr_cJ1_indexOf_5af95_74 (Nat.le_of_ble_eq_true rfl) rfl ?_
                    have hlp76_664138 : ∀ (n76_664138 : Nat) (g664133 : Int32) (g664134 : Int32), gB g664133 1 16777217 → gB g664134 (-2147483644) 33554431 → 0 ≤ g664134.toInt → g664133.toInt = g664134.toInt - z663848.toInt → 1 ≤ g664133.toInt → g664134.toInt ≤ z664015.toInt → (∀ (k : Nat) (e1 : Int32), tl_RStringLatin1_indexOf2_76_3 z664015 bs657154 f657157 g664133 g664134 k e1 → tl_RStringLatin1_indexOf2_76_3 z664015 bs657154 f657157 (1 : Int32) z664013 k e1) → ((z664015.toInt : Int) + 2 - g664134.toInt).toNat < n76_664138 → G (gV D I) l (gRm 0 0 0 0) (gMA (gV D I) (pp_657162_StringLatin1_indexOf D I P657150 F657151 q657152 qs657153 bs657154 p657155 p657156 f657157 n657158) gNA 0 0) ky_657162_StringLatin1_indexOf 76 [(10, .int g664133), (9, .int z664015), (8, .int g664134), (7, .int z663848), (6, .int z657164), (5, .int z657163), (0, .ref qs657153), (1, .int p657155), (2, .ref q657152), (3, .int p657156), (4, .int 0)] [] (va_pl P657150 F657151) 0 0 := by
                      intro n76_664138
                      induction n76_664138 with
                      | zero => intro g664133 g664134 bg664133 bg664134 x664135 x664136 x664137 x664138 kt76_664138 hm76_664138; exact absurd hm76_664138 (Nat.not_lt_zero _)
                      | succ n76_664138 ih76_664138 =>
                        intro g664133 g664134 bg664133 bg664134 x664135 x664136 x664137 x664138 kt76_664138 hm76_664138
                        refine G_iload 2 dr_cJ1_indexOf_5af95_76 rfl ?_
                        refine G_iload 1 dr_cJ1_indexOf_5af95_78 rfl ?_
                        refine G_icmp_ge 103 dr_cJ1_indexOf_5af95_80 (by decide +kernel) (fun hc664139 => ?_) (fun hc664139 => ?_)
                        · have r664140 : z664015.toInt ≤ g664134.toInt := gC_le hc664139
                          have hx664141 : tl_RStringLatin1_indexOf2_76_3 z664015 bs657154 f657157 (1 : Int32) z664013 103 g664134 := kt76_664138 103 g664134 (fun R c1 c2 c3 => c1 g664133 g664134 bg664133 bg664134 r664140)
                          refine G_iload 2 dr_cJ1_indexOf_5af95_103 rfl ?_
                          refine G_iload 1 dr_cJ1_indexOf_5af95_105 rfl ?_
                          refine G_icmp_ne 113 dr_cJ1_indexOf_5af95_107 (by decide +kernel) (fun hc664142 => ?_) (fun hc664142 => ?_)
                          · have r664143 : g664134.toInt ≠ z664015.toInt := gC_ne hc664142
                            obtain ⟨z664144, hz664144⟩ : ∃ z : Int32, z = z663848 + Int32.ofInt 1 := ⟨_, rfl⟩
                            have ez664144 : z664144.toInt = z663848.toInt + 1 := gI_inc hz664144 (by decide) bz663848' (by decide) (by decide)
                            have bz664144 : gB z664144 (-2147483644) 16777216 := ⟨by omega, by omega⟩
                            refine G_iinc (L' := [(7, .int z664144), (10, .int g664133), (9, .int z664015), (8, .int g664134), (6, .int z657164), (5, .int z657163), (0, .ref qs657153), (1, .int p657155), (2, .ref q657152), (3, .int p657156), (4, .int 0)]) z664144 3 dr_cJ1_indexOf_5af95_113 rfl hz664144.symm (Nat.le_of_ble_eq_true rfl) rfl ?_
                            refine G_goto 14 dr_cJ1_indexOf_5af95_116 (by decide +kernel) ?_
                            refine G_lv (L' := [(7, .int z664144), (6, .int z657164), (5, .int z657163), (0, .ref qs657153), (1, .int p657155), (2, .ref q657152), (3, .int p657156), (4, .int 0)]) [0, 4, 5, 6, 7, 8, 9, 10] rfl ?_
                            exact ih14_663075 z664144 (gB_w bz664144 (by decide) (by decide)) (by have qa0 : Int32.toInt 0 = 0 := (by decide); omega) (fun k e1 ht => kt14_663075 k e1 (fun R c1 c2 c3 c4 c5 c6 c7 c8 c9 => c8 g663074 z663080 z663848 z664013 z664014 z664015 g664134 z664144 k e1 bg663074 r663079 hz663080 r663235 hx664008 r664012 ez664013 ez664014 ez664015 hx664141 r664143 ez664144 (ht R c1 c2 c3 c4 c5 c6 c7 c8 c9))) (by have qa0 : Int32.toInt 0 = 0 := (by decide); omega)
                          · have r664145 : g664134.toInt = z664015.toInt := gC_eq hc664142
                            have hx664146 : tl_RStringLatin1_indexOf2_14 z657164 bs657154 z657163 p657156 f657157 (0 : Int32) 110 z663848 := kt14_663075 110 z663848 (fun R c1 c2 c3 c4 c5 c6 c7 c8 c9 => c9 g663074 z663080 z663848 z664013 z664014 z664015 g664134 bg663074 r663079 hz663080 r663235 hx664008 r664012 ez664013 ez664014 ez664015 hx664141 r664145)
                            refine G_iload 3 dr_cJ1_indexOf_5af95_110 rfl ?_
                            exact G_iretA dr_cJ1_indexOf_5af95_112 rfl (Nat.le_of_ble_eq_true rfl) (Nat.le_of_ble_eq_true rfl) ⟨z663848, rfl, rfl, (Nat.le_of_ble_eq_true rfl), (Nat.le_of_ble_eq_true rfl), (gB_w bz663848' (by decide) (by decide)), (by have qa0 : Int32.toInt 0 = 0 := (by decide); omega), (by first | exact ixP_of (by assumption) (by assumption) (by omega) | exact absurd (show False by omega) not_false), (fun R c1 c2 => c2 z657163 z657164 z663848 hz657163 bz657163 ez657164 hx664146)⟩
                        · have r664147 : g664134.toInt < z664015.toInt := gC_nle hc664139
                          have bg664134' : gB g664134 (-2147483644) 33554430 := ⟨by omega, by omega⟩
                          have bz664015' : gB z664015 (-2147483643) 33554431 := ⟨by omega, by omega⟩
                          refine G_aload_n 6 dr_cJ1_indexOf_5af95_83 rfl ?_
                          refine G_iload 2 dr_cJ1_indexOf_5af95_84 rfl ?_
                          refine G_kbald (f := fun j => bs657154.getD j 0) dr_cJ1_indexOf_5af95_86 hbs657154 (gB_inr (by omega) (by omega)) (G_nam fun z664148 hz664148 => ?_)
                          have bz664148 : gB z664148 (-2147483648) 2147483647 := gB_any z664148
                          refine G_aload_n 8 dr_cJ1_indexOf_5af95_87 rfl ?_
                          refine G_iload 0 dr_cJ1_indexOf_5af95_88 rfl ?_
                          refine Gp_bald 1 hmq657152 heq657152 dr_cJ1_indexOf_5af95_90 rfl (gB_inr (by omega) (by omega)) (G_nam fun z664149 hz664149 => ?_)
                          have bz664149 : gB z664149 (-128) 127 := by rw [hz664149]; exact bf657157 _
                          refine G_icmp_ne 103 dr_cJ1_indexOf_5af95_91 (by decide +kernel) (fun hc664150 => ?_) (fun hc664150 => ?_)
                          · have r664151 : z664148.toInt ≠ z664149.toInt := gC_ne hc664150
                            have hx664152 : tl_RStringLatin1_indexOf2_76_3 z664015 bs657154 f657157 (1 : Int32) z664013 103 g664134 := kt76_664138 103 g664134 (fun R c1 c2 c3 => c2 g664133 g664134 z664148 z664149 bg664133 bg664134 r664147 hz664148 hz664149 bz664149 r664151)
                            refine G_iload 2 dr_cJ1_indexOf_5af95_103 rfl ?_
                            refine G_iload 1 dr_cJ1_indexOf_5af95_105 rfl ?_
                            refine G_icmp_ne 113 dr_cJ1_indexOf_5af95_107 (by decide +kernel) (fun hc664153 => ?_) (fun hc664153 => ?_)
                            · have r664154 : g664134.toInt ≠ z664015.toInt := gC_ne hc664153
                              obtain ⟨z664155, hz664155⟩ : ∃ z : Int32, z = z663848 + Int32.ofInt 1 := ⟨_, rfl⟩
                              have ez664155 : z664155.toInt = z663848.toInt + 1 := gI_inc hz664155 (by decide) bz663848' (by decide) (by decide)
                              have bz664155 : gB z664155 (-2147483644) 16777216 := ⟨by omega, by omega⟩
                              refine G_iinc (L' := [(7, .int z664155), (10, .int g664133), (9, .int z664015), (8, .int g664134), (6, .int z657164), (5, .int z657163), (0, .ref qs657153), (1, .int p657155), (2, .ref q657152), (3, .int p657156), (4, .int 0)]) z664155 3 dr_cJ1_indexOf_5af95_113 rfl hz664155.symm (Nat.le_of_ble_eq_true rfl) rfl ?_
                              refine G_goto 14 dr_cJ1_indexOf_5af95_116 (by decide +kernel) ?_
                              refine G_lv (L' := [(7, .int z664155), (6, .int z657164), (5, .int z657163), (0, .ref qs657153), (1, .int p657155), (2, .ref q657152), (3, .int p657156), (4, .int 0)]) [0, 4, 5, 6, 7, 8, 9, 10] rfl ?_
                              exact ih14_663075 z664155 (gB_w bz664155 (by decide) (by decide)) (by have qa0 : Int32.toInt 0 = 0 := (by decide); omega) (fun k e1 ht => kt14_663075 k e1 (fun R c1 c2 c3 c4 c5 c6 c7 c8 c9 => c8 g663074 z663080 z663848 z664013 z664014 z664015 g664134 z664155 k e1 bg663074 r663079 hz663080 r663235 hx664008 r664012 ez664013 ez664014 ez664015 hx664152 r664154 ez664155 (ht R c1 c2 c3 c4 c5 c6 c7 c8 c9))) (by have qa0 : Int32.toInt 0 = 0 := (by decide); omega)
                            · have r664156 : g664134.toInt = z664015.toInt := gC_eq hc664153
                              have bg664134'' : gB g664134 (-2147483643) 33554430 := ⟨by omega, by omega⟩
                              have bz664015'' : gB z664015 (-2147483643) 33554430 := ⟨by omega, by omega⟩
                              have hx664157 : tl_RStringLatin1_indexOf2_14 z657164 bs657154 z657163 p657156 f657157 (0 : Int32) 110 z663848 := kt14_663075 110 z663848 (fun R c1 c2 c3 c4 c5 c6 c7 c8 c9 => c9 g663074 z663080 z663848 z664013 z664014 z664015 g664134 bg663074 r663079 hz663080 r663235 hx664008 r664012 ez664013 ez664014 ez664015 hx664152 r664156)
                              refine G_iload 3 dr_cJ1_indexOf_5af95_110 rfl ?_
                              exact G_iretA dr_cJ1_indexOf_5af95_112 rfl (Nat.le_of_ble_eq_true rfl) (Nat.le_of_ble_eq_true rfl) ⟨z663848, rfl, rfl, (Nat.le_of_ble_eq_true rfl), (Nat.le_of_ble_eq_true rfl), (gB_w bz663848' (by decide) (by decide)), (by have qa0 : Int32.toInt 0 = 0 := (by decide); omega), (by first | exact ixP_of (by assumption) (by assumption) (by omega) | exact absurd (show False by omega) not_false), (fun R c1 c2 => c2 z657163 z657164 z663848 hz657163 bz657163 ez657164 hx664157)⟩
                          · have r664158 : z664148.toInt = z664149.toInt := gC_eq hc664150
                            have bz664148' : gB z664148 (-128) 127 := ⟨by omega, by omega⟩
                            obtain ⟨z664159, hz664159⟩ : ∃ z : Int32, z = g664134 + Int32.ofInt 1 := ⟨_, rfl⟩
                            have ez664159 : z664159.toInt = g664134.toInt + 1 := gI_inc hz664159 (by decide) bg664134' (by decide) (by decide)
                            have bz664159 : gB z664159 (-2147483643) 33554431 := ⟨by omega, by omega⟩
                            refine G_iinc (L' := [(8, .int z664159), (10, .int g664133), (9, .int z664015), (7, .int z663848), (6, .int z657164), (5, .int z657163), (0, .ref qs657153), (1, .int p657155), (2, .ref q657152), (3, .int p657156), (4, .int 0)]) z664159 2 dr_cJ1_indexOf_5af95_94 rfl hz664159.symm (Nat.le_of_ble_eq_true rfl) rfl ?_
                            have bg664133' : gB g664133 1 16777216 := ⟨by omega, by omega⟩
                            obtain ⟨z664160, hz664160⟩ : ∃ z : Int32, z = g664133 + Int32.ofInt 1 := ⟨_, rfl⟩
                            have ez664160 : z664160.toInt = g664133.toInt + 1 := gI_inc hz664160 (by decide) bg664133' (by decide) (by decide)
                            have bz664160 : gB z664160 2 16777217 := ⟨by omega, by omega⟩
                            refine G_iinc (L' := [(10, .int z664160), (8, .int z664159), (9, .int z664015), (7, .int z663848), (6, .int z657164), (5, .int z657163), (0, .ref qs657153), (1, .int p657155), (2, .ref q657152), (3, .int p657156), (4, .int 0)]) z664160 1 dr_cJ1_indexOf_5af95_97 rfl hz664160.symm (Nat.le_of_ble_eq_true rfl) rfl ?_
                            refine G_goto 76 dr_cJ1_indexOf_5af95_100 (by decide +kernel) ?_
                            refine G_lv (L' := [(10, .int z664160), (9, .int z664015), (8, .int z664159), (7, .int z663848), (6, .int z657164), (5, .int z657163), (0, .ref qs657153), (1, .int p657155), (2, .ref q657152), (3, .int p657156), (4, .int 0)]) [0, 2, 1, 3, 4, 5, 6, 7, 8, 9, 10] rfl ?_
                            exact ih76_664138 z664160 z664159 (gB_w bz664160 (by decide) (by decide)) (gB_w bz664159 (by decide) (by decide)) (by have qa0 : Int32.toInt 0 = 0 := (by decide); omega) (by have qa0 : Int32.toInt 0 = 0 := (by decide); omega) (by have qa0 : Int32.toInt 0 = 0 := (by decide); omega) (by have qa0 : Int32.toInt 0 = 0 := (by decide); omega) (fun k e1 ht => kt76_664138 k e1 (fun R c1 c2 c3 => c3 g664133 g664134 z664148 z664149 z664159 z664160 k e1 bg664133 bg664134 r664147 hz664148 hz664149 bz664149 r664158 ez664159 ez664160 (ht R c1 c2 c3))) (by have qa0 : Int32.toInt 0 = 0 := (by decide); omega)
                    exact hlp76_664138 (((z664015.toInt : Int) + 2 - z664013.toInt).toNat + 1) 1 z664013 (gB_w (gBl (show Int32.toInt 1 = 1 by decide)) (by decide) (by decide)) (gB_w bz664013 (by decide) (by decide)) (by have qa0 : Int32.toInt 0 = 0 := (by decide); have qa1 : Int32.toInt 1 = 1 := (by decide); omega) (by have qa0 : Int32.toInt 0 = 0 := (by decide); have qa1 : Int32.toInt 1 = 1 := (by decide); omega) (by have qa0 : Int32.toInt 0 = 0 := (by decide); have qa1 : Int32.toInt 1 = 1 := (by decide); omega) (by have qa0 : Int32.toInt 0 = 0 := (by decide); have qa1 : Int32.toInt 1 = 1 := (by decide); omega) (fun k e1 ht => ht) (Nat.lt_succ_self _)
                · have r664161 : z664005.toInt ≠ z657163.toInt := gC_ne hc664006
                  refine G_goto 30 dr_cJ1_indexOf_5af95_49 (by decide +kernel) ?_
                  exact ih30_663847 z663848 (gB_w bz663848' (by decide) (by decide)) (by have qa0 : Int32.toInt 0 = 0 := (by decide); omega) (by have qa0 : Int32.toInt 0 = 0 := (by decide); omega) (fun k e1 ht => kt30_663847 k e1 (fun R c1 c2 c3 => c3 g663845 z663848 z664005 k e1 bg663845 ez663848 r664004 hz664005 r664161 (ht R c1 c2 c3))) (by have qa0 : Int32.toInt 0 = 0 := (by decide); omega)
          exact hlp30_663847 (((z657164.toInt : Int) + 2 - g663074.toInt).toNat + 1) g663074 bg663074' (by have qa0 : Int32.toInt 0 = 0 := (by decide); omega) (by have qa0 : Int32.toInt 0 = 0 := (by decide); omega) (fun k e1 ht => ht) (Nat.lt_succ_self _)
  exact hlp14_663075 (((z657164.toInt : Int) + 2 - 0).toNat + 1) 0 (gB_w (gBl (show Int32.toInt 0 = 0 by decide)) (by decide) (by decide)) (by have qa0 : Int32.toInt 0 = 0 := (by decide); omega) (fun k e1 ht => ht) (Nat.lt_succ_self _)
/- tr_RStringLatin1_indexOf: result -/
def tr_RStringLatin1_indexOf (bs : List Int32) (a1_v : Nat → Int32) (a1_n : Nat) (o1 : Int32) : Prop := ∀ R : (Int32) → Prop,
  (∀ (x1 : Int32) (x2 : Int32) (x3 : Int32) (x4 : Int32) (x5 : Int32), x1.toInt = (a1_n : Nat) → x1.toInt ≠ 0 → x2.toInt = (bs.length : Int) → x2.toInt ≠ 0 → x3.toInt = (bs.length : Int) → x4.toInt = (a1_n : Nat) → gB x5 (-2147483646) 16777215 → tr_RStringLatin1_indexOf2 bs x3 x4 a1_v x5 → R x5) →
  (∀ (x1 : Int32) (x2 : Int32), x1.toInt = (a1_n : Nat) → x1.toInt ≠ 0 → x2.toInt = (bs.length : Int) → x2.toInt = 0 → R (-1 : Int32)) →
  R o1
