theorem dr_cJ0_isLatin1_aae02_0 : decode cJ0_isLatin1_aae02 0 = .ok (.getstatic 38, 3) := by decide +kernel
theorem dr_cJ0_isLatin1_aae02_3 : decode cJ0_isLatin1_aae02 3 = .ok (.ifCond .eq 14, 3) := by decide +kernel
theorem dr_cJ0_isLatin1_aae02_6 : decode cJ0_isLatin1_aae02 6 = .ok (.aload_n 0, 1) := by decide +kernel
theorem dr_cJ0_isLatin1_aae02_7 : decode cJ0_isLatin1_aae02 7 = .ok (.getfield 15, 3) := by decide +kernel
theorem dr_cJ0_isLatin1_aae02_10 : decode cJ0_isLatin1_aae02 10 = .ok (.ifCond .ne 7, 3) := by decide +kernel
theorem dr_cJ0_isLatin1_aae02_13 : decode cJ0_isLatin1_aae02 13 = .ok (.iconst 1, 1) := by decide +kernel
theorem dr_cJ0_isLatin1_aae02_14 : decode cJ0_isLatin1_aae02 14 = .ok (.goto 4, 3) := by decide +kernel
theorem dr_cJ0_isLatin1_aae02_18 : decode cJ0_isLatin1_aae02 18 = .ok (.ireturn, 1) := by decide +kernel
theorem dr_cJ1_charAt_3b067_0 : decode cJ1_charAt_3b067 0 = .ok (.iload_n 1, 1) := by decide +kernel
theorem dr_cJ1_charAt_3b067_1 : decode cJ1_charAt_3b067 1 = .ok (.aload_n 0, 1) := by decide +kernel
theorem dr_cJ1_charAt_3b067_2 : decode cJ1_charAt_3b067 2 = .ok (.arraylength, 1) := by decide +kernel
theorem dr_cJ1_charAt_3b067_3 : decode cJ1_charAt_3b067 3 = .ok (.invokestatic 9, 3) := by decide +kernel
theorem wr_3_78 : (Jvm.Cond.methodLink "java/lang/StringLatin1" (9 : Nat) ({ cls := "java/lang/String", name := "checkIndex", desc := "(II)V" } : Jvm.MethodName)) ∈ gw := gw_3 78 rfl rfl
theorem dr_cJ1_charAt_3b067_6 : decode cJ1_charAt_3b067 6 = .ok (.aload_n 0, 1) := by decide +kernel
theorem dr_cJ1_charAt_3b067_7 : decode cJ1_charAt_3b067 7 = .ok (.iload_n 1, 1) := by decide +kernel
theorem dr_cJ1_charAt_3b067_8 : decode cJ1_charAt_3b067 8 = .ok (.baload, 1) := by decide +kernel
theorem dr_cJ1_charAt_3b067_9 : decode cJ1_charAt_3b067 9 = .ok (.sipush 255, 3) := by decide +kernel
theorem dr_cJ1_charAt_3b067_12 : decode cJ1_charAt_3b067 12 = .ok (.iand, 1) := by decide +kernel
theorem dr_cJ1_charAt_3b067_13 : decode cJ1_charAt_3b067 13 = .ok (.i2c, 1) := by decide +kernel
theorem dr_cJ1_charAt_3b067_14 : decode cJ1_charAt_3b067 14 = .ok (.ireturn, 1) := by decide +kernel
theorem dr_cJ0_charAt_5068e_0 : decode cJ0_charAt_5068e 0 = .ok (.aload_n 0, 1) := by decide +kernel
theorem dr_cJ0_charAt_5068e_1 : decode cJ0_charAt_5068e 1 = .ok (.invokevirtual 492, 3) := by decide +kernel
theorem wr_3_71 : (Jvm.Cond.methodLink "java/lang/String" (492 : Nat) ({ cls := "java/lang/String", name := "isLatin1", desc := "()Z" } : Jvm.MethodName)) ∈ gw := gw_3 71 rfl rfl
theorem wr_3_74 : (Jvm.Cond.code ({ cls := "java/lang/String", name := "isLatin1", desc := "()Z" } : Jvm.MethodName) prog_34_method_154_code (1 : Nat) (Option.some Jvm.ClassFile.FieldType.boolean)) ∈ gw := gw_3 74 rfl rfl
theorem wr_3_72 : (Jvm.Cond.instanceMethod ({ cls := "java/lang/String", name := "isLatin1", desc := "()Z" } : Jvm.MethodName)) ∈ gw := gw_3 72 rfl rfl
theorem wr_3_73 : (Jvm.Cond.selects "java/lang/String" ({ cls := "java/lang/String", name := "isLatin1", desc := "()Z" } : Jvm.MethodName) ({ cls := "java/lang/String", name := "isLatin1", desc := "()Z" } : Jvm.MethodName)) ∈ gw := gw_3 73 rfl rfl
theorem dr_cJ0_charAt_5068e_4 : decode cJ0_charAt_5068e 4 = .ok (.ifCond .eq 12, 3) := by decide +kernel
theorem dr_cJ0_charAt_5068e_7 : decode cJ0_charAt_5068e 7 = .ok (.aload_n 0, 1) := by decide +kernel
theorem dr_cJ0_charAt_5068e_8 : decode cJ0_charAt_5068e 8 = .ok (.getfield 9, 3) := by decide +kernel
theorem dr_cJ0_charAt_5068e_11 : decode cJ0_charAt_5068e 11 = .ok (.iload_n 1, 1) := by decide +kernel
theorem dr_cJ0_charAt_5068e_12 : decode cJ0_charAt_5068e 12 = .ok (.invokestatic 495, 3) := by decide +kernel
theorem wr_3_75 : (Jvm.Cond.methodLink "java/lang/String" (495 : Nat) ({ cls := "java/lang/StringLatin1", name := "charAt", desc := "([BI)C" } : Jvm.MethodName)) ∈ gw := gw_3 75 rfl rfl
theorem wr_3_77 : (Jvm.Cond.code ({ cls := "java/lang/StringLatin1", name := "charAt", desc := "([BI)C" } : Jvm.MethodName) prog_37_method_2_code (2 : Nat) (Option.some Jvm.ClassFile.FieldType.char)) ∈ gw := gw_3 77 rfl rfl
theorem wr_3_76 : (Jvm.Cond.static ({ cls := "java/lang/StringLatin1", name := "charAt", desc := "([BI)C" } : Jvm.MethodName)) ∈ gw := gw_3 76 rfl rfl
theorem dr_cJ0_charAt_5068e_15 : decode cJ0_charAt_5068e 15 = .ok (.ireturn, 1) := by decide +kernel
theorem dr_cJ1_indexOf_5af95_0 : decode cJ1_indexOf_5af95 0 = .ok (.aload_n 2, 1) := by decide +kernel
theorem dr_cJ1_indexOf_5af95_1 : decode cJ1_indexOf_5af95 1 = .ok (.iconst 0, 1) := by decide +kernel
theorem dr_cJ1_indexOf_5af95_2 : decode cJ1_indexOf_5af95 2 = .ok (.baload, 1) := by decide +kernel
theorem dr_cJ1_indexOf_5af95_3 : decode cJ1_indexOf_5af95 3 = .ok (.istore 5, 2) := by decide +kernel
theorem dr_cJ1_indexOf_5af95_5 : decode cJ1_indexOf_5af95 5 = .ok (.iload_n 1, 1) := by decide +kernel
theorem dr_cJ1_indexOf_5af95_6 : decode cJ1_indexOf_5af95 6 = .ok (.iload_n 3, 1) := by decide +kernel
theorem dr_cJ1_indexOf_5af95_7 : decode cJ1_indexOf_5af95 7 = .ok (.isub, 1) := by decide +kernel
theorem dr_cJ1_indexOf_5af95_8 : decode cJ1_indexOf_5af95 8 = .ok (.istore 6, 2) := by decide +kernel
theorem dr_cJ1_indexOf_5af95_10 : decode cJ1_indexOf_5af95 10 = .ok (.iload 4, 2) := by decide +kernel
theorem dr_cJ1_indexOf_5af95_12 : decode cJ1_indexOf_5af95 12 = .ok (.istore 7, 2) := by decide +kernel
theorem dr_cJ1_indexOf_5af95_14 : decode cJ1_indexOf_5af95 14 = .ok (.iload 7, 2) := by decide +kernel
theorem dr_cJ1_indexOf_5af95_16 : decode cJ1_indexOf_5af95 16 = .ok (.iload 6, 2) := by decide +kernel
theorem dr_cJ1_indexOf_5af95_18 : decode cJ1_indexOf_5af95 18 = .ok (.if_icmp .gt 101, 3) := by decide +kernel
theorem dr_cJ1_indexOf_5af95_119 : decode cJ1_indexOf_5af95 119 = .ok (.iconst (-1), 1) := by decide +kernel
theorem dr_cJ1_indexOf_5af95_120 : decode cJ1_indexOf_5af95 120 = .ok (.ireturn, 1) := by decide +kernel
theorem dr_cJ1_indexOf_5af95_21 : decode cJ1_indexOf_5af95 21 = .ok (.aload_n 0, 1) := by decide +kernel
theorem dr_cJ1_indexOf_5af95_22 : decode cJ1_indexOf_5af95 22 = .ok (.iload 7, 2) := by decide +kernel
theorem dr_cJ1_indexOf_5af95_24 : decode cJ1_indexOf_5af95 24 = .ok (.baload, 1) := by decide +kernel
theorem dr_cJ1_indexOf_5af95_25 : decode cJ1_indexOf_5af95 25 = .ok (.iload 5, 2) := by decide +kernel
theorem dr_cJ1_indexOf_5af95_27 : decode cJ1_indexOf_5af95 27 = .ok (.if_icmp .eq 25, 3) := by decide +kernel
theorem dr_cJ1_indexOf_5af95_52 : decode cJ1_indexOf_5af95 52 = .ok (.iload 7, 2) := by decide +kernel
theorem dr_cJ1_indexOf_5af95_54 : decode cJ1_indexOf_5af95 54 = .ok (.iload 6, 2) := by decide +kernel
theorem dr_cJ1_indexOf_5af95_56 : decode cJ1_indexOf_5af95 56 = .ok (.if_icmp .gt 57, 3) := by decide +kernel
theorem dr_cJ1_indexOf_5af95_113 : decode cJ1_indexOf_5af95 113 = .ok (.iinc 7 1, 3) := by decide +kernel
theorem dr_cJ1_indexOf_5af95_116 : decode cJ1_indexOf_5af95 116 = .ok (.goto (-102), 3) := by decide +kernel
theorem dr_cJ1_indexOf_5af95_59 : decode cJ1_indexOf_5af95 59 = .ok (.iload 7, 2) := by decide +kernel
theorem dr_cJ1_indexOf_5af95_61 : decode cJ1_indexOf_5af95 61 = .ok (.iconst 1, 1) := by decide +kernel
theorem dr_cJ1_indexOf_5af95_62 : decode cJ1_indexOf_5af95 62 = .ok (.iadd, 1) := by decide +kernel
theorem dr_cJ1_indexOf_5af95_63 : decode cJ1_indexOf_5af95 63 = .ok (.istore 8, 2) := by decide +kernel
theorem dr_cJ1_indexOf_5af95_65 : decode cJ1_indexOf_5af95 65 = .ok (.iload 8, 2) := by decide +kernel
theorem dr_cJ1_indexOf_5af95_67 : decode cJ1_indexOf_5af95 67 = .ok (.iload_n 3, 1) := by decide +kernel
theorem dr_cJ1_indexOf_5af95_68 : decode cJ1_indexOf_5af95 68 = .ok (.iadd, 1) := by decide +kernel
theorem dr_cJ1_indexOf_5af95_69 : decode cJ1_indexOf_5af95 69 = .ok (.iconst 1, 1) := by decide +kernel
theorem dr_cJ1_indexOf_5af95_70 : decode cJ1_indexOf_5af95 70 = .ok (.isub, 1) := by decide +kernel
theorem dr_cJ1_indexOf_5af95_71 : decode cJ1_indexOf_5af95 71 = .ok (.istore 9, 2) := by decide +kernel
theorem dr_cJ1_indexOf_5af95_73 : decode cJ1_indexOf_5af95 73 = .ok (.iconst 1, 1) := by decide +kernel
theorem dr_cJ1_indexOf_5af95_74 : decode cJ1_indexOf_5af95 74 = .ok (.istore 10, 2) := by decide +kernel
theorem dr_cJ1_indexOf_5af95_76 : decode cJ1_indexOf_5af95 76 = .ok (.iload 8, 2) := by decide +kernel
theorem dr_cJ1_indexOf_5af95_78 : decode cJ1_indexOf_5af95 78 = .ok (.iload 9, 2) := by decide +kernel
theorem dr_cJ1_indexOf_5af95_80 : decode cJ1_indexOf_5af95 80 = .ok (.if_icmp .ge 23, 3) := by decide +kernel
theorem dr_cJ1_indexOf_5af95_103 : decode cJ1_indexOf_5af95 103 = .ok (.iload 8, 2) := by decide +kernel
theorem dr_cJ1_indexOf_5af95_105 : decode cJ1_indexOf_5af95 105 = .ok (.iload 9, 2) := by decide +kernel
theorem dr_cJ1_indexOf_5af95_107 : decode cJ1_indexOf_5af95 107 = .ok (.if_icmp .ne 6, 3) := by decide +kernel
theorem dr_cJ1_indexOf_5af95_110 : decode cJ1_indexOf_5af95 110 = .ok (.iload 7, 2) := by decide +kernel
theorem dr_cJ1_indexOf_5af95_112 : decode cJ1_indexOf_5af95 112 = .ok (.ireturn, 1) := by decide +kernel
theorem dr_cJ1_indexOf_5af95_83 : decode cJ1_indexOf_5af95 83 = .ok (.aload_n 0, 1) := by decide +kernel
theorem dr_cJ1_indexOf_5af95_84 : decode cJ1_indexOf_5af95 84 = .ok (.iload 8, 2) := by decide +kernel
theorem dr_cJ1_indexOf_5af95_86 : decode cJ1_indexOf_5af95 86 = .ok (.baload, 1) := by decide +kernel
theorem dr_cJ1_indexOf_5af95_87 : decode cJ1_indexOf_5af95 87 = .ok (.aload_n 2, 1) := by decide +kernel
theorem dr_cJ1_indexOf_5af95_88 : decode cJ1_indexOf_5af95 88 = .ok (.iload 10, 2) := by decide +kernel
theorem dr_cJ1_indexOf_5af95_90 : decode cJ1_indexOf_5af95 90 = .ok (.baload, 1) := by decide +kernel
theorem dr_cJ1_indexOf_5af95_91 : decode cJ1_indexOf_5af95 91 = .ok (.if_icmp .ne 12, 3) := by decide +kernel
theorem dr_cJ1_indexOf_5af95_94 : decode cJ1_indexOf_5af95 94 = .ok (.iinc 8 1, 3) := by decide +kernel
theorem dr_cJ1_indexOf_5af95_97 : decode cJ1_indexOf_5af95 97 = .ok (.iinc 10 1, 3) := by decide +kernel
theorem dr_cJ1_indexOf_5af95_100 : decode cJ1_indexOf_5af95 100 = .ok (.goto (-24), 3) := by decide +kernel
theorem dr_cJ1_indexOf_5af95_30 : decode cJ1_indexOf_5af95 30 = .ok (.iinc 7 1, 3) := by decide +kernel
theorem dr_cJ1_indexOf_5af95_33 : decode cJ1_indexOf_5af95 33 = .ok (.iload 7, 2) := by decide +kernel
theorem dr_cJ1_indexOf_5af95_35 : decode cJ1_indexOf_5af95 35 = .ok (.iload 6, 2) := by decide +kernel
theorem dr_cJ1_indexOf_5af95_37 : decode cJ1_indexOf_5af95 37 = .ok (.if_icmp .gt 15, 3) := by decide +kernel
theorem dr_cJ1_indexOf_5af95_40 : decode cJ1_indexOf_5af95 40 = .ok (.aload_n 0, 1) := by decide +kernel
theorem dr_cJ1_indexOf_5af95_41 : decode cJ1_indexOf_5af95 41 = .ok (.iload 7, 2) := by decide +kernel
theorem dr_cJ1_indexOf_5af95_43 : decode cJ1_indexOf_5af95 43 = .ok (.baload, 1) := by decide +kernel
theorem dr_cJ1_indexOf_5af95_44 : decode cJ1_indexOf_5af95 44 = .ok (.iload 5, 2) := by decide +kernel
theorem dr_cJ1_indexOf_5af95_46 : decode cJ1_indexOf_5af95 46 = .ok (.if_icmp .eq 6, 3) := by decide +kernel
theorem dr_cJ1_indexOf_5af95_49 : decode cJ1_indexOf_5af95 49 = .ok (.goto (-19), 3) := by decide +kernel
abbrev ky_659373_String_isLatin1 : gKey := (cJ0_isLatin1_aae02, 1, "java/lang/String", (some FieldType.boolean), [], "isLatin1", fun _ _ => True)
def pp_659373_String_isLatin1 (D : va_G) (I : FieldType → ClassId) (P659368 : List Nat) (F659369 : Nat → va_E) (qs659370 : Nat) (qb659371 : Nat) (bs659372 : List Int32) : Option Value → va_W → Nat → Nat → Prop := fun r w dc ds => r = some (.int 1) ∧ w = va_pl P659368 F659369 ∧ dc ≤ 0 ∧ ds ≤ 0
set_option maxRecDepth 100000 in
set_option maxHeartbeats 4000000 in
theorem cp_659373_String_isLatin1 (l : Launch) (hl0 : l.stackTraces = false) (D : va_G) (I : FieldType → ClassId) (P659368 : List Nat) (F659369 : Nat → va_E) (qs659370 : Nat) (qb659371 : Nat) (bs659372 : List Int32) (hbs659372 : ∀ A s H, (gV D I).2.2.2.1 A s H → gSC qs659370 qb659371 bs659372 A s H) (nbs659372 : (bs659372.length : Int) ≤ 65535) (lbs659372 : gLB bs659372) : CtA (gV D I) l yJ0_isLatin1_aae02 cJ0_isLatin1_aae02 1 (some FieldType.boolean) 0 0 0 0 [.ref qs659370] (va_pl P659368 F659369) (pp_659373_String_isLatin1 D I P659368 F659369 qs659370 qb659371 bs659372) gNA := by
  refine CtA_ofF hl0 (by decide +kernel) (Nat.le_of_ble_eq_true rfl) ?_
  refine G_gets dr_cJ0_isLatin1_aae02_0 wr_3_65 gz_cs (fun x hx => ?_)
  subst hx
  refine G_if_eq 17 dr_cJ0_isLatin1_aae02_3 (by decide +kernel) (fun hc => absurd hc (by decide)) (fun _ => ?_)
  refine G_aload_n 0 dr_cJ0_isLatin1_aae02_6 rfl ?_
  refine G_kget dr_cJ0_isLatin1_aae02_7 wr_8_183 (fun _ _ _ h => (hbs659372 _ _ _ h).2.1) ?_
  refine G_if_ne 17 dr_cJ0_isLatin1_aae02_10 (by decide +kernel) (fun hc => absurd hc (by decide)) (fun _ => ?_)
  refine G_iconst 1 dr_cJ0_isLatin1_aae02_13 (by decide +kernel) ?_
  refine G_goto 18 dr_cJ0_isLatin1_aae02_14 (by decide +kernel) ?_
  exact G_zretA FieldType.boolean dr_cJ0_isLatin1_aae02_18 rfl rfl (Nat.le_of_ble_eq_true rfl) (Nat.le_of_ble_eq_true rfl) ⟨rfl, rfl, (Nat.le_of_ble_eq_true rfl), (Nat.le_of_ble_eq_true rfl)⟩
/- tr_RStringLatin1_charAt: result -/
def tr_RStringLatin1_charAt (bs : List Int32) (a1 : Int32) (o1 : Int32) : Prop := ∀ R : (Int32) → Prop,
  (∀ (x1 : Int32) (x2 : Int32) (x3 : Int32) (x4 : Int32), x1.toInt = (bs.length : Int) → tr_RString_checkIndex a1 x1 → x2 = bs.getD a1.toNatClampNeg 0 → x3 = x2 &&& (255 : Int32) → x4 = (x3.toUInt32 % 65536).toInt32 → R x4) →
  R o1
abbrev ky_659385_StringLatin1_charAt : gKey := (cJ1_charAt_3b067, 2, "java/lang/StringLatin1", (some FieldType.char), [], "charAt", fun _ _ => True)
def pp_659385_StringLatin1_charAt (D : va_G) (I : FieldType → ClassId) (P659379 : List Nat) (F659380 : Nat → va_E) (qs659381 : Nat) (bs659382 : List Int32) (p659383 : Int32) : Option Value → va_W → Nat → Nat → Prop := fun r w dc ds => ∃ (o659396 : Int32), r = some (.int o659396) ∧ w = va_pl P659379 F659380 ∧ dc ≤ 0 ∧ ds ≤ 0 ∧ gB o659396 0 65535 ∧ tr_RStringLatin1_charAt bs659382 p659383 o659396
set_option maxRecDepth 100000 in
set_option maxHeartbeats 4000000 in
theorem cp_659385_StringLatin1_charAt (l : Launch) (hl0 : l.stackTraces = false) (D : va_G) (I : FieldType → ClassId) (P659379 : List Nat) (F659380 : Nat → va_E) (qs659381 : Nat) (bs659382 : List Int32) (p659383 : Int32) (hbs659382 : ∀ A s H, (gV D I).2.2.2.1 A s H → va_T .byte qs659381 bs659382.length (fun j => .int (bs659382.getD j 0)) A s H) (nbs659382 : (bs659382.length : Int) ≤ 65535) (lbs659382 : gLB bs659382) (bp659383 : gB p659383 0 16777215) (x659384 : p659383.toInt < (bs659382.length : Int)) : CtA (gV D I) l yJ1_charAt_3b067 cJ1_charAt_3b067 2 (some FieldType.char) 2 43 0 0 [.ref qs659381, .int p659383] (va_pl P659379 F659380) (pp_659385_StringLatin1_charAt D I P659379 F659380 qs659381 bs659382 p659383) gNA := by
  refine CtA_ofF hl0 (by decide +kernel) (Nat.le_of_ble_eq_true rfl) ?_
  refine G_iload_n 1 dr_cJ1_charAt_3b067_0 rfl ?_
  refine G_aload_n 0 dr_cJ1_charAt_3b067_1 rfl ?_
  refine G_klen dr_cJ1_charAt_3b067_2 hbs659382 (G_nam fun z659386 hz659386 => ?_)
  have ez659386 : z659386.toInt = (bs659382.length : Int) := gI_ofN hz659386 nbs659382
  have bz659386 : gB z659386 0 65535 := ⟨by omega, by omega⟩
  refine Gw_callS (As := [.int p659383, .int z659386]) (gV_ok D I) (cp_657692_String_checkIndex l hl0 D I P659379 F659380 p659383 z659386 (gB_w bp659383 (by decide) (by decide)) (gB_w bz659386 (by decide) (by decide)) (by omega)) dr_cJ1_charAt_3b067_3 ⟨wr_3_78, wr_1_21, wr_3_80, by decide, rfl, (Nat.le_of_ble_eq_true rfl), (Nat.le_of_ble_eq_true rfl)⟩ wr_3_79 (show 0 + 0 ≤ 0 by first | omega | decide) (show 0 + 0 ≤ 0 by first | omega | decide) (Nat.le_of_ble_eq_true rfl) (fun r659390 w659391 dc659387 ds659388 hp659389 => ?_) (fun _ _ _ _ _ z => z.elim)
  obtain ⟨rfl, rfl, hdc, hds, ht659392⟩ := hp659389
  change G _ _ _ _ _ _ _ _ _ _ _
  refine G_widen (cs' := 0) (sl' := 0) (by omega) (by omega) ?_
  refine G_aload_n 0 dr_cJ1_charAt_3b067_6 rfl ?_
  refine G_iload_n 1 dr_cJ1_charAt_3b067_7 rfl ?_
  refine G_kbald (f := fun j => bs659382.getD j 0) dr_cJ1_charAt_3b067_8 hbs659382 (gB_inr (by omega) (by omega)) (G_nam fun z659393 hz659393 => ?_)
  have bz659393 : gB z659393 (-2147483648) 2147483647 := gB_any z659393
  refine G_sipush 255 dr_cJ1_charAt_3b067_9 (by decide +kernel) ?_
  refine G_iand dr_cJ1_charAt_3b067_12 (G_nam fun z659394 hz659394 => ?_)
  have bz659394 : gB z659394 0 255 := gB_and hz659394 (gBl (show Int32.toInt 255 = 255 by decide)) (by decide)
  refine G_i2c dr_cJ1_charAt_3b067_13 (G_nam fun z659395 hz659395 => ?_)
  have bz659395 : gB z659395 0 65535 := gB_i2c hz659395
  exact G_zretA FieldType.char dr_cJ1_charAt_3b067_14 rfl (gN_char bz659395) (Nat.le_of_ble_eq_true rfl) (Nat.le_of_ble_eq_true rfl) ⟨z659395, rfl, rfl, (Nat.le_of_ble_eq_true rfl), (Nat.le_of_ble_eq_true rfl), bz659395, (fun R c1 => c1 z659386 z659393 z659394 z659395 ez659386 ht659392 hz659393 hz659394 hz659395)⟩
/- tr_RString_charAt: result -/
def tr_RString_charAt (bs : List Int32) (a1 : Int32) (o1 : Int32) : Prop := ∀ R : (Int32) → Prop,
  (∀ (x1 : Int32), gB x1 0 65535 → tr_RStringLatin1_charAt bs a1 x1 → R x1) →
  R o1
abbrev ky_659367_String_charAt : gKey := (cJ0_charAt_5068e, 2, "java/lang/String", (some FieldType.char), [], "charAt", fun _ _ => True)
def pp_659367_String_charAt (D : va_G) (I : FieldType → ClassId) (P659360 : List Nat) (F659361 : Nat → va_E) (qs659362 : Nat) (qb659363 : Nat) (bs659364 : List Int32) (p659365 : Int32) : Option Value → va_W → Nat → Nat → Prop := fun r w dc ds => ∃ (o659404 : Int32), r = some (.int o659404) ∧ w = va_pl P659360 F659361 ∧ dc ≤ 0 ∧ ds ≤ 0 ∧ gB o659404 0 65535 ∧ tr_RString_charAt bs659364 p659365 o659404
set_option maxRecDepth 100000 in
set_option maxHeartbeats 4000000 in
theorem cp_659367_String_charAt (l : Launch) (hl0 : l.stackTraces = false) (D : va_G) (I : FieldType → ClassId) (P659360 : List Nat) (F659361 : Nat → va_E) (qs659362 : Nat) (qb659363 : Nat) (bs659364 : List Int32) (p659365 : Int32) (hbs659364 : ∀ A s H, (gV D I).2.2.2.1 A s H → gSC qs659362 qb659363 bs659364 A s H) (nbs659364 : (bs659364.length : Int) ≤ 65535) (lbs659364 : gLB bs659364) (bp659365 : gB p659365 0 65535) (x659366 : p659365.toInt < (bs659364.length : Int)) : CtA (gV D I) l yJ0_charAt_5068e cJ0_charAt_5068e 2 (some FieldType.char) 3 64 0 0 [.ref qs659362, .int p659365] (va_pl P659360 F659361) (pp_659367_String_charAt D I P659360 F659361 qs659362 qb659363 bs659364 p659365) gNA := by
  refine CtA_ofF hl0 (by decide +kernel) (Nat.le_of_ble_eq_true rfl) ?_
  refine G_aload_n 0 dr_cJ0_charAt_5068e_0 rfl ?_
  refine Gw_callVk (As := []) (gV_ok D I) (cp_659373_String_isLatin1 l hl0 D I P659360 F659361 qs659362 qb659363 bs659364 hbs659364 nbs659364 lbs659364) dr_cJ0_charAt_5068e_1 ⟨wr_3_71, wr_1_21, wr_3_74, by decide, rfl, (Nat.le_of_ble_eq_true rfl), (Nat.le_of_ble_eq_true rfl)⟩ wr_3_72 wr_3_73 (fun _ _ _ h => (hbs659364 _ _ _ h).1) (show 0 + 0 ≤ 0 by first | omega | decide) (show 0 + 0 ≤ 0 by first | omega | decide) (Nat.le_of_ble_eq_true rfl) (fun r659377 w659378 dc659374 ds659375 hp659376 => ?_) (fun _ _ _ _ _ z => z.elim)
  obtain ⟨rfl, rfl, hdc, hds⟩ := hp659376
  change G _ _ _ _ _ _ _ (.int 1 :: _) _ _ _
  refine G_widen (cs' := 0) (sl' := 0) (by omega) (by omega) ?_
  refine G_if_eq 16 dr_cJ0_charAt_5068e_4 (by decide +kernel) (fun hc => absurd hc (by decide)) (fun _ => ?_)
  refine G_aload_n 0 dr_cJ0_charAt_5068e_7 rfl ?_
  refine G_kget dr_cJ0_charAt_5068e_8 wr_8_182 (fun _ _ _ h => (hbs659364 _ _ _ h).2.2.1) ?_
  refine G_iload_n 1 dr_cJ0_charAt_5068e_11 rfl ?_
  refine Gw_callS (As := [.ref qb659363, .int p659365]) (gV_ok D I) (cp_659385_StringLatin1_charAt l hl0 D I P659360 F659361 qb659363 bs659364 p659365 (fun _ _ _ h => (hbs659364 _ _ _ h).2.2.2) (by omega) lbs659364 (gB_w bp659365 (by decide) (by decide)) (by omega)) dr_cJ0_charAt_5068e_12 ⟨wr_3_75, wr_1_28, wr_3_77, by decide, rfl, (Nat.le_of_ble_eq_true rfl), (Nat.le_of_ble_eq_true rfl)⟩ wr_3_76 (show 0 + 0 ≤ 0 by first | omega | decide) (show 0 + 0 ≤ 0 by first | omega | decide) (Nat.le_of_ble_eq_true rfl) (fun r659400 w659401 dc659397 ds659398 hp659399 => ?_) (fun _ _ _ _ _ z => z.elim)
  obtain ⟨o659402, rfl, rfl, hdc, hds, bo659402, ht659403⟩ := hp659399
  change G _ _ _ _ _ _ _ (.int o659402 :: _) _ _ _
  refine G_widen (cs' := 0) (sl' := 0) (by omega) (by omega) ?_
  exact G_zretA FieldType.char dr_cJ0_charAt_5068e_15 rfl (gN_char bo659402) (Nat.le_of_ble_eq_true rfl) (Nat.le_of_ble_eq_true rfl) ⟨o659402, rfl, rfl, (Nat.le_of_ble_eq_true rfl), (Nat.le_of_ble_eq_true rfl), bo659402, (fun R c1 => c1 o659402 bo659402 ht659403)⟩
/- tl_RStringLatin1_indexOf2_76: l10, l8; out: l8 -/
def tl_RStringLatin1_indexOf2_76 (c1 : Int32) (bs : List Int32) (a2_v : Nat → Int32) (s1 : Int32) (s2 : Int32) (k : Nat) (e1 : Int32) : Prop := ∀ R : (Int32) → (Int32) → Nat → (Int32) → Prop,
  (∀ (l10_2 : Int32) (l8_2 : Int32), gB l10_2 1 16777217 → gB l8_2 (-2147483645) 33554431 → c1.toInt ≤ l8_2.toInt → R l10_2 l8_2 103 l8_2) →
  (∀ (l10_2 : Int32) (l8_2 : Int32) (x1 : Int32) (x2 : Int32), gB l10_2 1 16777217 → gB l8_2 (-2147483645) 33554431 → l8_2.toInt < c1.toInt → x1 = bs.getD l8_2.toNatClampNeg 0 → x2 = a2_v l10_2.toNatClampNeg → gB x2 (-128) 127 → x1.toInt ≠ x2.toInt → R l10_2 l8_2 103 l8_2) →
  (∀ (l10_2 : Int32) (l8_2 : Int32) (x1 : Int32) (x2 : Int32) (x3 : Int32) (x4 : Int32) (k : Nat) (e1 : Int32), gB l10_2 1 16777217 → gB l8_2 (-2147483645) 33554431 → l8_2.toInt < c1.toInt → x1 = bs.getD l8_2.toNatClampNeg 0 → x2 = a2_v l10_2.toNatClampNeg → gB x2 (-128) 127 → x1.toInt = x2.toInt → x3.toInt = l8_2.toInt + 1 → x4.toInt = l10_2.toInt + 1 → R x4 x3 k e1 → R l10_2 l8_2 k e1) →
  R s1 s2 k e1
/- tl_RStringLatin1_indexOf2_76_2: l10, l8; out: l8 -/
def tl_RStringLatin1_indexOf2_76_2 (c1 : Int32) (bs : List Int32) (a2_v : Nat → Int32) (s1 : Int32) (s2 : Int32) (k : Nat) (e1 : Int32) : Prop := ∀ R : (Int32) → (Int32) → Nat → (Int32) → Prop,
  (∀ (l10_2 : Int32) (l8_2 : Int32), gB l10_2 1 16777217 → gB l8_2 (-16777214) 33554431 → c1.toInt ≤ l8_2.toInt → R l10_2 l8_2 103 l8_2) →
  (∀ (l10_2 : Int32) (l8_2 : Int32) (x1 : Int32) (x2 : Int32), gB l10_2 1 16777217 → gB l8_2 (-16777214) 33554431 → l8_2.toInt < c1.toInt → x1 = bs.getD l8_2.toNatClampNeg 0 → x2 = a2_v l10_2.toNatClampNeg → gB x2 (-128) 127 → x1.toInt ≠ x2.toInt → R l10_2 l8_2 103 l8_2) →
  (∀ (l10_2 : Int32) (l8_2 : Int32) (x1 : Int32) (x2 : Int32) (x3 : Int32) (x4 : Int32) (k : Nat) (e1 : Int32), gB l10_2 1 16777217 → gB l8_2 (-16777214) 33554431 → l8_2.toInt < c1.toInt → x1 = bs.getD l8_2.toNatClampNeg 0 → x2 = a2_v l10_2.toNatClampNeg → gB x2 (-128) 127 → x1.toInt = x2.toInt → x3.toInt = l8_2.toInt + 1 → x4.toInt = l10_2.toInt + 1 → R x4 x3 k e1 → R l10_2 l8_2 k e1) →
  R s1 s2 k e1
/- tl_RStringLatin1_indexOf2_76_3: l10, l8; out: l8 -/
def tl_RStringLatin1_indexOf2_76_3 (c1 : Int32) (bs : List Int32) (a2_v : Nat → Int32) (s1 : Int32) (s2 : Int32) (k : Nat) (e1 : Int32) : Prop := ∀ R : (Int32) → (Int32) → Nat → (Int32) → Prop,
  (∀ (l10_2 : Int32) (l8_2 : Int32), gB l10_2 1 16777217 → gB l8_2 (-2147483644) 33554431 → c1.toInt ≤ l8_2.toInt → R l10_2 l8_2 103 l8_2) →
  (∀ (l10_2 : Int32) (l8_2 : Int32) (x1 : Int32) (x2 : Int32), gB l10_2 1 16777217 → gB l8_2 (-2147483644) 33554431 → l8_2.toInt < c1.toInt → x1 = bs.getD l8_2.toNatClampNeg 0 → x2 = a2_v l10_2.toNatClampNeg → gB x2 (-128) 127 → x1.toInt ≠ x2.toInt → R l10_2 l8_2 103 l8_2) →
  (∀ (l10_2 : Int32) (l8_2 : Int32) (x1 : Int32) (x2 : Int32) (x3 : Int32) (x4 : Int32) (k : Nat) (e1 : Int32), gB l10_2 1 16777217 → gB l8_2 (-2147483644) 33554431 → l8_2.toInt < c1.toInt → x1 = bs.getD l8_2.toNatClampNeg 0 → x2 = a2_v l10_2.toNatClampNeg → gB x2 (-128) 127 → x1.toInt = x2.toInt → x3.toInt = l8_2.toInt + 1 → x4.toInt = l10_2.toInt + 1 → R x4 x3 k e1 → R l10_2 l8_2 k e1) →
  R s1 s2 k e1
/- tl_RStringLatin1_indexOf2_30: l7; out: l7 -/
def tl_RStringLatin1_indexOf2_30 (c1 : Int32) (bs : List Int32) (c2 : Int32) (s1 : Int32) (k : Nat) (e1 : Int32) : Prop := ∀ R : (Int32) → Nat → (Int32) → Prop,
  (∀ (l7_2 : Int32) (x1 : Int32), gB l7_2 (-2147483646) 16777215 → x1.toInt = l7_2.toInt + 1 → c1.toInt < x1.toInt → R l7_2 52 x1) →
  (∀ (l7_2 : Int32) (x1 : Int32) (x2 : Int32), gB l7_2 (-2147483646) 16777215 → x1.toInt = l7_2.toInt + 1 → x1.toInt ≤ c1.toInt → x2 = bs.getD x1.toNatClampNeg 0 → x2.toInt = c2.toInt → R l7_2 52 x1) →
  (∀ (l7_2 : Int32) (x1 : Int32) (x2 : Int32) (k : Nat) (e1 : Int32), gB l7_2 (-2147483646) 16777215 → x1.toInt = l7_2.toInt + 1 → x1.toInt ≤ c1.toInt → x2 = bs.getD x1.toNatClampNeg 0 → x2.toInt ≠ c2.toInt → R x1 k e1 → R l7_2 k e1) →
  R s1 k e1
/- tl_RStringLatin1_indexOf2_14: l7; out: l7 -/
def tl_RStringLatin1_indexOf2_14 (c1 : Int32) (bs : List Int32) (c2 : Int32) (a3 : Int32) (a2_v : Nat → Int32) (s1 : Int32) (k : Nat) (e1 : Int32) : Prop := ∀ R : (Int32) → Nat → (Int32) → Prop,
  (∀ (l7_1 : Int32), gB l7_1 (-2147483646) 16777217 → c1.toInt < l7_1.toInt → R l7_1 119 (0 : Int32)) →
  (∀ (l7_1 : Int32) (x1 : Int32) (x2 : Int32) (k : Nat) (e1 : Int32), gB l7_1 (-2147483646) 16777217 → l7_1.toInt ≤ c1.toInt → x1 = bs.getD l7_1.toNatClampNeg 0 → x1.toInt = c2.toInt → c1.toInt < l7_1.toInt → x2.toInt = l7_1.toInt + 1 → R x2 k e1 → R l7_1 k e1) →
  (∀ (l7_1 : Int32) (x1 : Int32) (x2 : Int32) (x3 : Int32) (x4 : Int32) (x5 : Int32) (x6 : Int32) (k : Nat) (e1 : Int32), gB l7_1 (-2147483646) 16777217 → l7_1.toInt ≤ c1.toInt → x1 = bs.getD l7_1.toNatClampNeg 0 → x1.toInt = c2.toInt → l7_1.toInt ≤ c1.toInt → x2.toInt = l7_1.toInt + 1 → x3.toInt = x2.toInt + a3.toInt → x4.toInt = x3.toInt - 1 → tl_RStringLatin1_indexOf2_76 x4 bs a2_v (1 : Int32) x2 103 x5 → x5.toInt ≠ x4.toInt → x6.toInt = l7_1.toInt + 1 → R x6 k e1 → R l7_1 k e1) →
  (∀ (l7_1 : Int32) (x1 : Int32) (x2 : Int32) (x3 : Int32) (x4 : Int32) (x5 : Int32), gB l7_1 (-2147483646) 16777217 → l7_1.toInt ≤ c1.toInt → x1 = bs.getD l7_1.toNatClampNeg 0 → x1.toInt = c2.toInt → l7_1.toInt ≤ c1.toInt → x2.toInt = l7_1.toInt + 1 → x3.toInt = x2.toInt + a3.toInt → x4.toInt = x3.toInt - 1 → tl_RStringLatin1_indexOf2_76 x4 bs a2_v (1 : Int32) x2 103 x5 → x5.toInt = x4.toInt → R l7_1 110 l7_1) →
  (∀ (l7_1 : Int32) (x1 : Int32) (x2 : Int32) (x3 : Int32) (k : Nat) (e1 : Int32), gB l7_1 (-2147483646) 16777217 → l7_1.toInt ≤ c1.toInt → x1 = bs.getD l7_1.toNatClampNeg 0 → x1.toInt ≠ c2.toInt → tl_RStringLatin1_indexOf2_30 c1 bs c2 l7_1 52 x2 → c1.toInt < x2.toInt → x3.toInt = x2.toInt + 1 → R x3 k e1 → R l7_1 k e1) →
  (∀ (l7_1 : Int32) (x1 : Int32) (x2 : Int32) (x3 : Int32) (x4 : Int32) (x5 : Int32) (x6 : Int32) (x7 : Int32) (k : Nat) (e1 : Int32), gB l7_1 (-2147483646) 16777217 → l7_1.toInt ≤ c1.toInt → x1 = bs.getD l7_1.toNatClampNeg 0 → x1.toInt ≠ c2.toInt → tl_RStringLatin1_indexOf2_30 c1 bs c2 l7_1 52 x2 → x2.toInt ≤ c1.toInt → x3.toInt = x2.toInt + 1 → x4.toInt = x3.toInt + a3.toInt → x5.toInt = x4.toInt - 1 → tl_RStringLatin1_indexOf2_76_2 x5 bs a2_v (1 : Int32) x3 103 x6 → x6.toInt ≠ x5.toInt → x7.toInt = x2.toInt + 1 → R x7 k e1 → R l7_1 k e1) →
  (∀ (l7_1 : Int32) (x1 : Int32) (x2 : Int32) (x3 : Int32) (x4 : Int32) (x5 : Int32) (x6 : Int32), gB l7_1 (-2147483646) 16777217 → l7_1.toInt ≤ c1.toInt → x1 = bs.getD l7_1.toNatClampNeg 0 → x1.toInt ≠ c2.toInt → tl_RStringLatin1_indexOf2_30 c1 bs c2 l7_1 52 x2 → x2.toInt ≤ c1.toInt → x3.toInt = x2.toInt + 1 → x4.toInt = x3.toInt + a3.toInt → x5.toInt = x4.toInt - 1 → tl_RStringLatin1_indexOf2_76_2 x5 bs a2_v (1 : Int32) x3 103 x6 → x6.toInt = x5.toInt → R l7_1 110 x2) →
  (∀ (l7_1 : Int32) (x1 : Int32) (x2 : Int32) (x3 : Int32) (x4 : Int32) (x5 : Int32) (x6 : Int32) (x7 : Int32) (k : Nat) (e1 : Int32), gB l7_1 (-2147483646) 16777217 → l7_1.toInt ≤ c1.toInt → x1 = bs.getD l7_1.toNatClampNeg 0 → x1.toInt ≠ c2.toInt → tl_RStringLatin1_indexOf2_30 c1 bs c2 l7_1 52 x2 → x2.toInt ≤ c1.toInt → x3.toInt = x2.toInt + 1 → x4.toInt = x3.toInt + a3.toInt → x5.toInt = x4.toInt - 1 → tl_RStringLatin1_indexOf2_76_3 x5 bs a2_v (1 : Int32) x3 103 x6 → x6.toInt ≠ x5.toInt → x7.toInt = x2.toInt + 1 → R x7 k e1 → R l7_1 k e1) →
  (∀ (l7_1 : Int32) (x1 : Int32) (x2 : Int32) (x3 : Int32) (x4 : Int32) (x5 : Int32) (x6 : Int32), gB l7_1 (-2147483646) 16777217 → l7_1.toInt ≤ c1.toInt → x1 = bs.getD l7_1.toNatClampNeg 0 → x1.toInt ≠ c2.toInt → tl_RStringLatin1_indexOf2_30 c1 bs c2 l7_1 52 x2 → x2.toInt ≤ c1.toInt → x3.toInt = x2.toInt + 1 → x4.toInt = x3.toInt + a3.toInt → x5.toInt = x4.toInt - 1 → tl_RStringLatin1_indexOf2_76_3 x5 bs a2_v (1 : Int32) x3 103 x6 → x6.toInt = x5.toInt → R l7_1 110 x2) →
  R s1 k e1
/- tr_RStringLatin1_indexOf2: result -/
def tr_RStringLatin1_indexOf2 (bs : List Int32) (a1 : Int32) (a3 : Int32) (a2_v : Nat → Int32) (o1 : Int32) : Prop := ∀ R : (Int32) → Prop,
  (∀ (x1 : Int32) (x2 : Int32), x1 = a2_v (0 : Int32).toNatClampNeg → gB x1 (-128) 127 → x2.toInt = a1.toInt - a3.toInt → tl_RStringLatin1_indexOf2_14 x2 bs x1 a3 a2_v (0 : Int32) 119 (0 : Int32) → R (-1 : Int32)) →
  (∀ (x1 : Int32) (x2 : Int32) (x3 : Int32), x1 = a2_v (0 : Int32).toNatClampNeg → gB x1 (-128) 127 → x2.toInt = a1.toInt - a3.toInt → tl_RStringLatin1_indexOf2_14 x2 bs x1 a3 a2_v (0 : Int32) 110 x3 → R x3) →
  R o1
abbrev ky_659465_StringLatin1_indexOf : gKey := (cJ1_indexOf_5af95, 11, "java/lang/StringLatin1", (some FieldType.int), [], "indexOf", fun _ _ => True)
def pp_659465_StringLatin1_indexOf (D : va_G) (I : FieldType → ClassId) (P659453 : List Nat) (F659454 : Nat → va_E) (q659455 : Nat) (qs659456 : Nat) (bs659457 : List Int32) (p659458 : Int32) (p659459 : Int32) (f659460 : Nat → Int32) (n659461 : Nat) : Option Value → va_W → Nat → Nat → Prop := fun r w dc ds => ∃ (o666465 : Int32), r = some (.int o666465) ∧ w = va_pl P659453 F659454 ∧ dc ≤ 0 ∧ ds ≤ 0 ∧ gB o666465 (-2147483646) 16777215 ∧ (o666465.toInt < 0 ∨ o666465.toInt + p659459.toInt ≤ p659458.toInt) ∧ ixP (fun j => bs659457.getD j 0) f659460 o666465 ∧ tr_RStringLatin1_indexOf2 bs659457 p659458 p659459 f659460 o666465
set_option maxRecDepth 100000 in
set_option maxHeartbeats 4000000 in
theorem cp_659465_StringLatin1_indexOf (l : Launch) (hl0 : l.stackTraces = false) (D : va_G) (I : FieldType → ClassId) (P659453 : List Nat) (F659454 : Nat → va_E) (q659455 : Nat) (qs659456 : Nat) (bs659457 : List Int32) (p659458 : Int32) (p659459 : Int32) (f659460 : Nat → Int32) (n659461 : Nat) (hmq659455 : q659455 ∈ P659453) (heq659455 : F659454 q659455 = .inl (I .byte, n659461, .inl f659460)) (hbs659457 : ∀ A s H, (gV D I).2.2.2.1 A s H → va_T .byte qs659456 bs659457.length (fun j => .int (bs659457.getD j 0)) A s H) (nbs659457 : (bs659457.length : Int) ≤ 65535) (lbs659457 : gLB bs659457) (bp659458 : gB p659458 0 16777216) (bp659459 : gB p659459 1 16777216) (bf659460 : gF f659460 (-128) 127) (x659462 : p659458.toInt = (bs659457.length : Int)) (x659463 : p659459.toInt = (n659461 : Int)) (x659464 : ((n659461 : Int) ≤ 16777216)) : CtA (gV D I) l yJ1_indexOf_5af95 cJ1_indexOf_5af95 11 (some FieldType.int) 0 0 0 0 [.ref qs659456, .int p659458, .ref q659455, .int p659459, .int 0] (va_pl P659453 F659454) (pp_659465_StringLatin1_indexOf D I P659453 F659454 q659455 qs659456 bs659457 p659458 p659459 f659460 n659461) gNA := by
  refine CtA_ofF hl0 (by decide +kernel) (Nat.le_of_ble_eq_true rfl) ?_
  refine G_aload_n 2 dr_cJ1_indexOf_5af95_0 rfl ?_
  refine G_iconst 0 dr_cJ1_indexOf_5af95_1 (by decide +kernel) ?_
  refine Gp_bald 1 hmq659455 heq659455 dr_cJ1_indexOf_5af95_2 rfl (gB_inr (x := 0) (show (0 : Int) ≤ Int32.toInt 0 by decide) (show Int32.toInt 0 < _ by rw [show Int32.toInt 0 = 0 by decide]; omega)) (G_nam fun z659466 hz659466 => ?_)
  have bz659466 : gB z659466 (-128) 127 := by rw [hz659466]; exact bf659460 _
  refine G_istore (L' := [(5, .int z659466), (0, .ref qs659456), (1, .int p659458), (2, .ref q659455), (3, .int p659459), (4, .int 0)]) dr_cJ1_indexOf_5af95_3 (Nat.le_of_ble_eq_true rfl) rfl ?_
  refine G_iload_n 2 dr_cJ1_indexOf_5af95_5 rfl ?_
  refine G_iload_n 4 dr_cJ1_indexOf_5af95_6 rfl ?_
  refine G_isub dr_cJ1_indexOf_5af95_7 (G_nam fun z659467 hz659467 => ?_)
  have ez659467 : z659467.toInt = p659458.toInt - p659459.toInt := by rw [gI_sub hz659467 bp659458 bp659459 (by decide) (by decide)]
  have bz659467 : gB z659467 (-16777216) 16777215 := gB_sub (gI_sub hz659467 bp659458 bp659459 (by decide) (by decide)) bp659458 bp659459 (by decide) (by decide)
  refine G_istore (L' := [(6, .int z659467), (5, .int z659466), (0, .ref qs659456), (1, .int p659458), (2, .ref q659455), (3, .int p659459), (4, .int 0)]) dr_cJ1_indexOf_5af95_8 (Nat.le_of_ble_eq_true rfl) rfl ?_
  refine G_iload 6 dr_cJ1_indexOf_5af95_10 rfl ?_
  refine G_istore (L' := [(7, .int 0), (6, .int z659467), (5, .int z659466), (0, .ref qs659456), (1, .int p659458), (2, .ref q659455), (3, .int p659459), (4, .int 0)]) dr_cJ1_indexOf_5af95_12 (Nat.le_of_ble_eq_true rfl) rfl ?_
  have hlp14_665378 : ∀ (n14_665378 : Nat) (g665377 : Int32), gB g665377 (-2147483646) 16777217 → 0 ≤ g665377.toInt → (∀ (k : Nat) (e1 : Int32), tl_RStringLatin1_indexOf2_14 z659467 bs659457 z659466 p659459 f659460 g665377 k e1 → tl_RStringLatin1_indexOf2_14 z659467 bs659457 z659466 p659459 f659460 (0 : Int32) k e1) → ((z659467.toInt : Int) + 2 - g665377.toInt).toNat < n14_665378 → G (gV D I) l (gRm 0 0 0 0) (gMA (gV D I) (pp_659465_StringLatin1_indexOf D I P659453 F659454 q659455 qs659456 bs659457 p659458 p659459 f659460 n659461) gNA 0 0) ky_659465_StringLatin1_indexOf 14 [(7, .int g665377), (6, .int z659467), (5, .int z659466), (0, .ref qs659456), (1, .int p659458), (2, .ref q659455), (3, .int p659459), (4, .int 0)] [] (va_pl P659453 F659454) 0 0 := by
    intro n14_665378
    induction n14_665378 with
    | zero => intro g665377 bg665377 x665378 kt14_665378 hm14_665378; exact absurd hm14_665378 (Nat.not_lt_zero _)
    | succ n14_665378 ih14_665378 =>
      intro g665377 bg665377 x665378 kt14_665378 hm14_665378
      refine G_iload 0 dr_cJ1_indexOf_5af95_14 rfl ?_
      refine G_iload 1 dr_cJ1_indexOf_5af95_16 rfl ?_
      refine G_icmp_gt 119 dr_cJ1_indexOf_5af95_18 (by decide +kernel) (fun hc665379 => ?_) (fun hc665379 => ?_)
      · have r665380 : z659467.toInt < g665377.toInt := gC_lt hc665379
        have bg665377' : gB g665377 (-16777215) 16777217 := ⟨by omega, by omega⟩
        have hx665381 : tl_RStringLatin1_indexOf2_14 z659467 bs659457 z659466 p659459 f659460 (0 : Int32) 119 (0 : Int32) := kt14_665378 119 (0 : Int32) (fun R c1 c2 c3 c4 c5 c6 c7 c8 c9 => c1 g665377 bg665377 r665380)
        refine G_iconst (-1) dr_cJ1_indexOf_5af95_119 (by decide +kernel) ?_
        exact G_iretA dr_cJ1_indexOf_5af95_120 rfl (Nat.le_of_ble_eq_true rfl) (Nat.le_of_ble_eq_true rfl) ⟨(-1), rfl, rfl, (Nat.le_of_ble_eq_true rfl), (Nat.le_of_ble_eq_true rfl), (gB_w (gBl (show Int32.toInt (-1) = (-1) by decide)) (by decide) (by decide)), (by have qa0 : Int32.toInt (-1) = (-1) := (by decide); have qa1 : Int32.toInt 0 = 0 := (by decide); omega), (ixP_n (by decide)), (fun R c1 c2 => c1 z659466 z659467 hz659466 bz659466 ez659467 hx665381)⟩
      · have r665382 : g665377.toInt ≤ z659467.toInt := gC_nlt hc665379
        have bg665377' : gB g665377 (-2147483646) 16777215 := ⟨by omega, by omega⟩
        refine G_aload_n 3 dr_cJ1_indexOf_5af95_21 rfl ?_
        refine G_iload 0 dr_cJ1_indexOf_5af95_22 rfl ?_
        refine G_kbald (f := fun j => bs659457.getD j 0) dr_cJ1_indexOf_5af95_24 hbs659457 (gB_inr (by omega) (by omega)) (G_nam fun z665383 hz665383 => ?_)
        have bz665383 : gB z665383 (-2147483648) 2147483647 := gB_any z665383
        refine G_iload 2 dr_cJ1_indexOf_5af95_25 rfl ?_
        refine G_icmp_eq 52 dr_cJ1_indexOf_5af95_27 (by decide +kernel) (fun hc665384 => ?_) (fun hc665384 => ?_)
        · have r665385 : z665383.toInt = z659466.toInt := gC_eq hc665384
          have bz665383' : gB z665383 (-128) 127 := ⟨by omega, by omega⟩
          refine G_iload 0 dr_cJ1_indexOf_5af95_52 rfl ?_
          refine G_iload 1 dr_cJ1_indexOf_5af95_54 rfl ?_
          refine G_icmp_gt 113 dr_cJ1_indexOf_5af95_56 (by decide +kernel) (fun hc665386 => ?_) (fun hc665386 => ?_)
          · have r665387 : z659467.toInt < g665377.toInt := gC_lt hc665386
            have bz659467' : gB z659467 (-16777216) 16777214 := ⟨by omega, by omega⟩
            have bg665377'' : gB g665377 (-16777215) 16777215 := ⟨by omega, by omega⟩
            obtain ⟨z665388, hz665388⟩ : ∃ z : Int32, z = g665377 + Int32.ofInt 1 := ⟨_, rfl⟩
            have ez665388 : z665388.toInt = g665377.toInt + 1 := gI_inc hz665388 (by decide) bg665377'' (by decide) (by decide)
            have bz665388 : gB z665388 (-16777214) 16777216 := ⟨by omega, by omega⟩
            refine G_iinc (L' := [(7, .int z665388), (6, .int z659467), (5, .int z659466), (0, .ref qs659456), (1, .int p659458), (2, .ref q659455), (3, .int p659459), (4, .int 0)]) z665388 0 dr_cJ1_indexOf_5af95_113 rfl hz665388.symm (Nat.le_of_ble_eq_true rfl) rfl ?_
            refine G_goto 14 dr_cJ1_indexOf_5af95_116 (by decide +kernel) ?_
            exact ih14_665378 z665388 (gB_w bz665388 (by decide) (by decide)) (by have qa0 : Int32.toInt 0 = 0 := (by decide); omega) (fun k e1 ht => kt14_665378 k e1 (fun R c1 c2 c3 c4 c5 c6 c7 c8 c9 => c2 g665377 z665383 z665388 k e1 bg665377 r665382 hz665383 r665385 r665387 ez665388 (ht R c1 c2 c3 c4 c5 c6 c7 c8 c9))) (by have qa0 : Int32.toInt 0 = 0 := (by decide); omega)
          · have r665389 : g665377.toInt ≤ z659467.toInt := gC_nlt hc665386
            refine G_iload 0 dr_cJ1_indexOf_5af95_59 rfl ?_
            refine G_iconst 1 dr_cJ1_indexOf_5af95_61 (by decide +kernel) ?_
            refine G_iadd dr_cJ1_indexOf_5af95_62 (G_nam fun z665390 hz665390 => ?_)
            have ez665390 : z665390.toInt = g665377.toInt + 1 := by rw [gI_add hz665390 bg665377' (gBl (show Int32.toInt 1 = 1 by decide)) (by decide) (by decide), show Int32.toInt 1 = 1 from by decide]
            have bz665390 : gB z665390 (-2147483645) 16777216 := gB_add (gI_add hz665390 bg665377' (gBl (show Int32.toInt 1 = 1 by decide)) (by decide) (by decide)) bg665377' (gBl (show Int32.toInt 1 = 1 by decide)) (by decide) (by decide)
            refine G_istore (L' := [(8, .int z665390), (7, .int g665377), (6, .int z659467), (5, .int z659466), (0, .ref qs659456), (1, .int p659458), (2, .ref q659455), (3, .int p659459), (4, .int 0)]) dr_cJ1_indexOf_5af95_63 (Nat.le_of_ble_eq_true rfl) rfl ?_
            refine G_iload 0 dr_cJ1_indexOf_5af95_65 rfl ?_
            refine G_iload_n 7 dr_cJ1_indexOf_5af95_67 rfl ?_
            refine G_iadd dr_cJ1_indexOf_5af95_68 (G_nam fun z665391 hz665391 => ?_)
            have ez665391 : z665391.toInt = z665390.toInt + p659459.toInt := by rw [gI_add hz665391 bz665390 bp659459 (by decide) (by decide)]
            have bz665391 : gB z665391 (-2147483644) 33554432 := gB_add (gI_add hz665391 bz665390 bp659459 (by decide) (by decide)) bz665390 bp659459 (by decide) (by decide)
            refine G_iconst 1 dr_cJ1_indexOf_5af95_69 (by decide +kernel) ?_
            refine G_isub dr_cJ1_indexOf_5af95_70 (G_nam fun z665392 hz665392 => ?_)
            have ez665392 : z665392.toInt = z665391.toInt - 1 := by rw [gI_sub hz665392 bz665391 (gBl (show Int32.toInt 1 = 1 by decide)) (by decide) (by decide), show Int32.toInt 1 = 1 from by decide]
            have bz665392 : gB z665392 (-2147483645) 33554431 := gB_sub (gI_sub hz665392 bz665391 (gBl (show Int32.toInt 1 = 1 by decide)) (by decide) (by decide)) bz665391 (gBl (show Int32.toInt 1 = 1 by decide)) (by decide) (by decide)
            refine G_istore (L' := [(9, .int z665392), (8, .int z665390), (7, .int g665377), (6, .int z659467), (5, .int z659466), (0, .ref qs659456), (1, .int p659458), (2, .ref q659455), (3, .int p659459), (4, .int 0)]) dr_cJ1_indexOf_5af95_71 (Nat.le_of_ble_eq_true rfl) rfl ?_
            refine G_iconst 1 dr_cJ1_indexOf_5af95_73 (by decide +kernel) ?_
            refine G_istore (L' := [(10, .int 1), (9, .int z665392), (8, .int z665390), (7, .int g665377), (6, .int z659467), (5, .int z659466), (0, .ref qs659456), (1, .int p659458), (2, .ref q659455), (3, .int p659459), (4, .int 0)]) dr_cJ1_indexOf_5af95_74 (Nat.le_of_ble_eq_true rfl) rfl ?_
            have hlp76_665515 : ∀ (n76_665515 : Nat) (g665510 : Int32) (g665511 : Int32), gB g665510 1 16777217 → gB g665511 (-2147483645) 33554431 → 0 ≤ g665511.toInt → g665510.toInt = g665511.toInt - g665377.toInt → 1 ≤ g665510.toInt → g665511.toInt ≤ z665392.toInt → (∀ (k : Nat) (e1 : Int32), tl_RStringLatin1_indexOf2_76 z665392 bs659457 f659460 g665510 g665511 k e1 → tl_RStringLatin1_indexOf2_76 z665392 bs659457 f659460 (1 : Int32) z665390 k e1) → ((z665392.toInt : Int) + 2 - g665511.toInt).toNat < n76_665515 → G (gV D I) l (gRm 0 0 0 0) (gMA (gV D I) (pp_659465_StringLatin1_indexOf D I P659453 F659454 q659455 qs659456 bs659457 p659458 p659459 f659460 n659461) gNA 0 0) ky_659465_StringLatin1_indexOf 76 [(10, .int g665510), (9, .int z665392), (8, .int g665511), (7, .int g665377), (6, .int z659467), (5, .int z659466), (0, .ref qs659456), (1, .int p659458), (2, .ref q659455), (3, .int p659459), (4, .int 0)] [] (va_pl P659453 F659454) 0 0 := by
              intro n76_665515
              induction n76_665515 with
              | zero => intro g665510 g665511 bg665510 bg665511 x665512 x665513 x665514 x665515 kt76_665515 hm76_665515; exact absurd hm76_665515 (Nat.not_lt_zero _)
              | succ n76_665515 ih76_665515 =>
                intro g665510 g665511 bg665510 bg665511 x665512 x665513 x665514 x665515 kt76_665515 hm76_665515
                refine G_iload 2 dr_cJ1_indexOf_5af95_76 rfl ?_
                refine G_iload 1 dr_cJ1_indexOf_5af95_78 rfl ?_
                refine G_icmp_ge 103 dr_cJ1_indexOf_5af95_80 (by decide +kernel) (fun hc665516 => ?_) (fun hc665516 => ?_)
                · have r665517 : z665392.toInt ≤ g665511.toInt := gC_le hc665516
                  have hx665518 : tl_RStringLatin1_indexOf2_76 z665392 bs659457 f659460 (1 : Int32) z665390 103 g665511 := kt76_665515 103 g665511 (fun R c1 c2 c3 => c1 g665510 g665511 bg665510 bg665511 r665517)
                  refine G_iload 2 dr_cJ1_indexOf_5af95_103 rfl ?_
                  refine G_iload 1 dr_cJ1_indexOf_5af95_105 rfl ?_
                  refine G_icmp_ne 113 dr_cJ1_indexOf_5af95_107 (by decide +kernel) (fun hc665519 => ?_) (fun hc665519 => ?_)
                  · have r665520 : g665511.toInt ≠ z665392.toInt := gC_ne hc665519
                    obtain ⟨z665521, hz665521⟩ : ∃ z : Int32, z = g665377 + Int32.ofInt 1 := ⟨_, rfl⟩
                    have ez665521 : z665521.toInt = g665377.toInt + 1 := gI_inc hz665521 (by decide) bg665377' (by decide) (by decide)
                    have bz665521 : gB z665521 (-2147483645) 16777216 := ⟨by omega, by omega⟩
                    refine G_iinc (L' := [(7, .int z665521), (10, .int g665510), (9, .int z665392), (8, .int g665511), (6, .int z659467), (5, .int z659466), (0, .ref qs659456), (1, .int p659458), (2, .ref q659455), (3, .int p659459), (4, .int 0)]) z665521 3 dr_cJ1_indexOf_5af95_113 rfl hz665521.symm (Nat.le_of_ble_eq_true rfl) rfl ?_
                    refine G_goto 14 dr_cJ1_indexOf_5af95_116 (by decide +kernel) ?_
                    refine G_lv (L' := [(7, .int z665521), (6, .int z659467), (5, .int z659466), (0, .ref qs659456), (1, .int p659458), (2, .ref q659455), (3, .int p659459), (4, .int 0)]) [0, 4, 5, 6, 7, 8, 9, 10] rfl ?_
                    exact ih14_665378 z665521 (gB_w bz665521 (by decide) (by decide)) (by have qa0 : Int32.toInt 0 = 0 := (by decide); omega) (fun k e1 ht => kt14_665378 k e1 (fun R c1 c2 c3 c4 c5 c6 c7 c8 c9 => c3 g665377 z665383 z665390 z665391 z665392 g665511 z665521 k e1 bg665377 r665382 hz665383 r665385 r665389 ez665390 ez665391 ez665392 hx665518 r665520 ez665521 (ht R c1 c2 c3 c4 c5 c6 c7 c8 c9))) (by have qa0 : Int32.toInt 0 = 0 := (by decide); omega)
                  · have r665522 : g665511.toInt = z665392.toInt := gC_eq hc665519
                    have hx665523 : tl_RStringLatin1_indexOf2_14 z659467 bs659457 z659466 p659459 f659460 (0 : Int32) 110 g665377 := kt14_665378 110 g665377 (fun R c1 c2 c3 c4 c5 c6 c7 c8 c9 => c4 g665377 z665383 z665390 z665391 z665392 g665511 bg665377 r665382 hz665383 r665385 r665389 ez665390 ez665391 ez665392 hx665518 r665522)
                    refine G_iload 3 dr_cJ1_indexOf_5af95_110 rfl ?_
                    exact G_iretA dr_cJ1_indexOf_5af95_112 rfl (Nat.le_of_ble_eq_true rfl) (Nat.le_of_ble_eq_true rfl) ⟨g665377, rfl, rfl, (Nat.le_of_ble_eq_true rfl), (Nat.le_of_ble_eq_true rfl), bg665377', (by have qa0 : Int32.toInt 0 = 0 := (by decide); omega), (by first | exact ixP_of (by assumption) (by assumption) (by omega) | exact absurd (show False by omega) not_false), (fun R c1 c2 => c2 z659466 z659467 g665377 hz659466 bz659466 ez659467 hx665523)⟩
                · have r665524 : g665511.toInt < z665392.toInt := gC_nle hc665516
                  have bg665511' : gB g665511 (-2147483645) 33554430 := ⟨by omega, by omega⟩
                  have bz665392' : gB z665392 (-2147483644) 33554431 := ⟨by omega, by omega⟩
                  refine G_aload_n 6 dr_cJ1_indexOf_5af95_83 rfl ?_
                  refine G_iload 2 dr_cJ1_indexOf_5af95_84 rfl ?_
                  refine G_kbald (f := fun j => bs659457.getD j 0) dr_cJ1_indexOf_5af95_86 hbs659457 (gB_inr (by omega) (by omega)) (G_nam fun z665525 hz665525 => ?_)
                  have bz665525 : gB z665525 (-2147483648) 2147483647 := gB_any z665525
                  refine G_aload_n 8 dr_cJ1_indexOf_5af95_87 rfl ?_
                  refine G_iload 0 dr_cJ1_indexOf_5af95_88 rfl ?_
                  refine Gp_bald 1 hmq659455 heq659455 dr_cJ1_indexOf_5af95_90 rfl (gB_inr (by omega) (by omega)) (G_nam fun z665526 hz665526 => ?_)
                  have bz665526 : gB z665526 (-128) 127 := by rw [hz665526]; exact bf659460 _
                  refine G_icmp_ne 103 dr_cJ1_indexOf_5af95_91 (by decide +kernel) (fun hc665527 => ?_) (fun hc665527 => ?_)
                  · have r665528 : z665525.toInt ≠ z665526.toInt := gC_ne hc665527
                    have hx665529 : tl_RStringLatin1_indexOf2_76 z665392 bs659457 f659460 (1 : Int32) z665390 103 g665511 := kt76_665515 103 g665511 (fun R c1 c2 c3 => c2 g665510 g665511 z665525 z665526 bg665510 bg665511 r665524 hz665525 hz665526 bz665526 r665528)
                    refine G_iload 2 dr_cJ1_indexOf_5af95_103 rfl ?_
                    refine G_iload 1 dr_cJ1_indexOf_5af95_105 rfl ?_
                    refine G_icmp_ne 113 dr_cJ1_indexOf_5af95_107 (by decide +kernel) (fun hc665530 => ?_) (fun hc665530 => ?_)
                    · have r665531 : g665511.toInt ≠ z665392.toInt := gC_ne hc665530
                      obtain ⟨z665532, hz665532⟩ : ∃ z : Int32, z = g665377 + Int32.ofInt 1 := ⟨_, rfl⟩
                      have ez665532 : z665532.toInt = g665377.toInt + 1 := gI_inc hz665532 (by decide) bg665377' (by decide) (by decide)
                      have bz665532 : gB z665532 (-2147483645) 16777216 := ⟨by omega, by omega⟩
                      refine G_iinc (L' := [(7, .int z665532), (10, .int g665510), (9, .int z665392), (8, .int g665511), (6, .int z659467), (5, .int z659466), (0, .ref qs659456), (1, .int p659458), (2, .ref q659455), (3, .int p659459), (4, .int 0)]) z665532 3 dr_cJ1_indexOf_5af95_113 rfl hz665532.symm (Nat.le_of_ble_eq_true rfl) rfl ?_
                      refine G_goto 14 dr_cJ1_indexOf_5af95_116 (by decide +kernel) ?_
                      refine G_lv (L' := [(7, .int z665532), (6, .int z659467), (5, .int z659466), (0, .ref qs659456), (1, .int p659458), (2, .ref q659455), (3, .int p659459), (4, .int 0)]) [0, 4, 5, 6, 7, 8, 9, 10] rfl ?_
                      exact ih14_665378 z665532 (gB_w bz665532 (by decide) (by decide)) (by have qa0 : Int32.toInt 0 = 0 := (by decide); omega) (fun k e1 ht => kt14_665378 k e1 (fun R c1 c2 c3 c4 c5 c6 c7 c8 c9 => c3 g665377 z665383 z665390 z665391 z665392 g665511 z665532 k e1 bg665377 r665382 hz665383 r665385 r665389 ez665390 ez665391 ez665392 hx665529 r665531 ez665532 (ht R c1 c2 c3 c4 c5 c6 c7 c8 c9))) (by have qa0 : Int32.toInt 0 = 0 := (by decide); omega)
                    · have r665533 : g665511.toInt = z665392.toInt := gC_eq hc665530
                      have bg665511'' : gB g665511 (-2147483644) 33554430 := ⟨by omega, by omega⟩
                      have bz665392'' : gB z665392 (-2147483644) 33554430 := ⟨by omega, by omega⟩
                      have hx665534 : tl_RStringLatin1_indexOf2_14 z659467 bs659457 z659466 p659459 f659460 (0 : Int32) 110 g665377 := kt14_665378 110 g665377 (fun R c1 c2 c3 c4 c5 c6 c7 c8 c9 => c4 g665377 z665383 z665390 z665391 z665392 g665511 bg665377 r665382 hz665383 r665385 r665389 ez665390 ez665391 ez665392 hx665529 r665533)
                      refine G_iload 3 dr_cJ1_indexOf_5af95_110 rfl ?_
                      exact G_iretA dr_cJ1_indexOf_5af95_112 rfl (Nat.le_of_ble_eq_true rfl) (Nat.le_of_ble_eq_true rfl) ⟨g665377, rfl, rfl, (Nat.le_of_ble_eq_true rfl), (Nat.le_of_ble_eq_true rfl), bg665377', (by have qa0 : Int32.toInt 0 = 0 := (by decide); omega), (by first | exact ixP_of (by assumption) (by assumption) (by omega) | exact absurd (show False by omega) not_false), (fun R c1 c2 => c2 z659466 z659467 g665377 hz659466 bz659466 ez659467 hx665534)⟩
                  · have r665535 : z665525.toInt = z665526.toInt := gC_eq hc665527
                    have bz665525' : gB z665525 (-128) 127 := ⟨by omega, by omega⟩
                    obtain ⟨z665536, hz665536⟩ : ∃ z : Int32, z = g665511 + Int32.ofInt 1 := ⟨_, rfl⟩
                    have ez665536 : z665536.toInt = g665511.toInt + 1 := gI_inc hz665536 (by decide) bg665511' (by decide) (by decide)
                    have bz665536 : gB z665536 (-2147483644) 33554431 := ⟨by omega, by omega⟩
                    refine G_iinc (L' := [(8, .int z665536), (10, .int g665510), (9, .int z665392), (7, .int g665377), (6, .int z659467), (5, .int z659466), (0, .ref qs659456), (1, .int p659458), (2, .ref q659455), (3, .int p659459), (4, .int 0)]) z665536 2 dr_cJ1_indexOf_5af95_94 rfl hz665536.symm (Nat.le_of_ble_eq_true rfl) rfl ?_
                    have bg665510' : gB g665510 1 16777216 := ⟨by omega, by omega⟩
                    obtain ⟨z665537, hz665537⟩ : ∃ z : Int32, z = g665510 + Int32.ofInt 1 := ⟨_, rfl⟩
                    have ez665537 : z665537.toInt = g665510.toInt + 1 := gI_inc hz665537 (by decide) bg665510' (by decide) (by decide)
                    have bz665537 : gB z665537 2 16777217 := ⟨by omega, by omega⟩
                    refine G_iinc (L' := [(10, .int z665537), (8, .int z665536), (9, .int z665392), (7, .int g665377), (6, .int z659467), (5, .int z659466), (0, .ref qs659456), (1, .int p659458), (2, .ref q659455), (3, .int p659459), (4, .int 0)]) z665537 1 dr_cJ1_indexOf_5af95_97 rfl hz665537.symm (Nat.le_of_ble_eq_true rfl) rfl ?_
                    refine G_goto 76 dr_cJ1_indexOf_5af95_100 (by decide +kernel) ?_
                    refine G_lv (L' := [(10, .int z665537), (9, .int z665392), (8, .int z665536), (7, .int g665377), (6, .int z659467), (5, .int z659466), (0, .ref qs659456), (1, .int p659458), (2, .ref q659455), (3, .int p659459), (4, .int 0)]) [0, 2, 1, 3, 4, 5, 6, 7, 8, 9, 10] rfl ?_
                    exact ih76_665515 z665537 z665536 (gB_w bz665537 (by decide) (by decide)) (gB_w bz665536 (by decide) (by decide)) (by have qa0 : Int32.toInt 0 = 0 := (by decide); omega) (by have qa0 : Int32.toInt 0 = 0 := (by decide); omega) (by have qa0 : Int32.toInt 0 = 0 := (by decide); omega) (by have qa0 : Int32.toInt 0 = 0 := (by decide); omega) (fun k e1 ht => kt76_665515 k e1 (fun R c1 c2 c3 => c3 g665510 g665511 z665525 z665526 z665536 z665537 k e1 bg665510 bg665511 r665524 hz665525 hz665526 bz665526 r665535 ez665536 ez665537 (ht R c1 c2 c3))) (by have qa0 : Int32.toInt 0 = 0 := (by decide); omega)
            exact hlp76_665515 (((z665392.toInt : Int) + 2 - z665390.toInt).toNat + 1) 1 z665390 (gB_w (gBl (show Int32.toInt 1 = 1 by decide)) (by decide) (by decide)) (gB_w bz665390 (by decide) (by decide)) (by have qa0 : Int32.toInt 0 = 0 := (by decide); have qa1 : Int32.toInt 1 = 1 := (by decide); omega) (by have qa0 : Int32.toInt 0 = 0 := (by decide); have qa1 : Int32.toInt 1 = 1 := (by decide); omega) (by have qa0 : Int32.toInt 0 = 0 := (by decide); have qa1 : Int32.toInt 1 = 1 := (by decide); omega) (by have qa0 : Int32.toInt 0 = 0 := (by decide); have qa1 : Int32.toInt 1 = 1 := (by decide); omega) (fun k e1 ht => ht) (Nat.lt_succ_self _)
        · have r665538 : z665383.toInt ≠ z659466.toInt := gC_ne hc665384
          have hlp30_666150 : ∀ (n30_666150 : Nat) (g666148 : Int32), gB g666148 (-2147483646) 16777215 → 0 ≤ g666148.toInt → g665377.toInt ≤ g666148.toInt → (∀ (k : Nat) (e1 : Int32), tl_RStringLatin1_indexOf2_30 z659467 bs659457 z659466 g666148 k e1 → tl_RStringLatin1_indexOf2_30 z659467 bs659457 z659466 g665377 k e1) → ((z659467.toInt : Int) + 2 - g666148.toInt).toNat < n30_666150 → G (gV D I) l (gRm 0 0 0 0) (gMA (gV D I) (pp_659465_StringLatin1_indexOf D I P659453 F659454 q659455 qs659456 bs659457 p659458 p659459 f659460 n659461) gNA 0 0) ky_659465_StringLatin1_indexOf 30 [(7, .int g666148), (6, .int z659467), (5, .int z659466), (0, .ref qs659456), (1, .int p659458), (2, .ref q659455), (3, .int p659459), (4, .int 0)] [] (va_pl P659453 F659454) 0 0 := by
            intro n30_666150
            induction n30_666150 with
            | zero => intro g666148 bg666148 x666149 x666150 kt30_666150 hm30_666150; exact absurd hm30_666150 (Nat.not_lt_zero _)
            | succ n30_666150 ih30_666150 =>
              intro g666148 bg666148 x666149 x666150 kt30_666150 hm30_666150
              obtain ⟨z666151, hz666151⟩ : ∃ z : Int32, z = g666148 + Int32.ofInt 1 := ⟨_, rfl⟩
              have ez666151 : z666151.toInt = g666148.toInt + 1 := gI_inc hz666151 (by decide) bg666148 (by decide) (by decide)
              have bz666151 : gB z666151 (-2147483645) 16777216 := ⟨by omega, by omega⟩
              refine G_iinc (L' := [(7, .int z666151), (6, .int z659467), (5, .int z659466), (0, .ref qs659456), (1, .int p659458), (2, .ref q659455), (3, .int p659459), (4, .int 0)]) z666151 0 dr_cJ1_indexOf_5af95_30 rfl hz666151.symm (Nat.le_of_ble_eq_true rfl) rfl ?_
              refine G_iload 0 dr_cJ1_indexOf_5af95_33 rfl ?_
              refine G_iload 1 dr_cJ1_indexOf_5af95_35 rfl ?_
              refine G_icmp_gt 52 dr_cJ1_indexOf_5af95_37 (by decide +kernel) (fun hc666152 => ?_) (fun hc666152 => ?_)
              · have r666153 : z659467.toInt < z666151.toInt := gC_lt hc666152
                have bz666151' : gB z666151 (-16777215) 16777216 := ⟨by omega, by omega⟩
                have hx666154 : tl_RStringLatin1_indexOf2_30 z659467 bs659457 z659466 g665377 52 z666151 := kt30_666150 52 z666151 (fun R c1 c2 c3 => c1 g666148 z666151 bg666148 ez666151 r666153)
                refine G_iload 0 dr_cJ1_indexOf_5af95_52 rfl ?_
                refine G_iload 1 dr_cJ1_indexOf_5af95_54 rfl ?_
                refine G_icmp_gt 113 dr_cJ1_indexOf_5af95_56 (by decide +kernel) (fun hc666155 => ?_) (fun hc666155 => ?_)
                · have r666156 : z659467.toInt < z666151.toInt := gC_lt hc666155
                  obtain ⟨z666157, hz666157⟩ : ∃ z : Int32, z = z666151 + Int32.ofInt 1 := ⟨_, rfl⟩
                  have ez666157 : z666157.toInt = z666151.toInt + 1 := gI_inc hz666157 (by decide) bz666151' (by decide) (by decide)
                  have bz666157 : gB z666157 (-16777214) 16777217 := ⟨by omega, by omega⟩
                  refine G_iinc (L' := [(7, .int z666157), (6, .int z659467), (5, .int z659466), (0, .ref qs659456), (1, .int p659458), (2, .ref q659455), (3, .int p659459), (4, .int 0)]) z666157 0 dr_cJ1_indexOf_5af95_113 rfl hz666157.symm (Nat.le_of_ble_eq_true rfl) rfl ?_
                  refine G_goto 14 dr_cJ1_indexOf_5af95_116 (by decide +kernel) ?_
                  exact ih14_665378 z666157 (gB_w bz666157 (by decide) (by decide)) (by have qa0 : Int32.toInt 0 = 0 := (by decide); omega) (fun k e1 ht => kt14_665378 k e1 (fun R c1 c2 c3 c4 c5 c6 c7 c8 c9 => c5 g665377 z665383 z666151 z666157 k e1 bg665377 r665382 hz665383 r665538 hx666154 r666156 ez666157 (ht R c1 c2 c3 c4 c5 c6 c7 c8 c9))) (by have qa0 : Int32.toInt 0 = 0 := (by decide); omega)
                · have r666158 : z666151.toInt ≤ z659467.toInt := gC_nlt hc666155
                  have bz666151'' : gB z666151 (-16777215) 16777215 := ⟨by omega, by omega⟩
                  have bz659467' : gB z659467 (-16777215) 16777215 := ⟨by omega, by omega⟩
                  refine G_iload 0 dr_cJ1_indexOf_5af95_59 rfl ?_
                  refine G_iconst 1 dr_cJ1_indexOf_5af95_61 (by decide +kernel) ?_
                  refine G_iadd dr_cJ1_indexOf_5af95_62 (G_nam fun z666159 hz666159 => ?_)
                  have ez666159 : z666159.toInt = z666151.toInt + 1 := by rw [gI_add hz666159 bz666151'' (gBl (show Int32.toInt 1 = 1 by decide)) (by decide) (by decide), show Int32.toInt 1 = 1 from by decide]
                  have bz666159 : gB z666159 (-16777214) 16777216 := gB_add (gI_add hz666159 bz666151'' (gBl (show Int32.toInt 1 = 1 by decide)) (by decide) (by decide)) bz666151'' (gBl (show Int32.toInt 1 = 1 by decide)) (by decide) (by decide)
                  refine G_istore (L' := [(8, .int z666159), (7, .int z666151), (6, .int z659467), (5, .int z659466), (0, .ref qs659456), (1, .int p659458), (2, .ref q659455), (3, .int p659459), (4, .int 0)]) dr_cJ1_indexOf_5af95_63 (Nat.le_of_ble_eq_true rfl) rfl ?_
                  refine G_iload 0 dr_cJ1_indexOf_5af95_65 rfl ?_
                  refine G_iload_n 7 dr_cJ1_indexOf_5af95_67 rfl ?_
                  refine G_iadd dr_cJ1_indexOf_5af95_68 (G_nam fun z666160 hz666160 => ?_)
                  have ez666160 : z666160.toInt = z666159.toInt + p659459.toInt := by rw [gI_add hz666160 bz666159 bp659459 (by decide) (by decide)]
                  have bz666160 : gB z666160 (-16777213) 33554432 := gB_add (gI_add hz666160 bz666159 bp659459 (by decide) (by decide)) bz666159 bp659459 (by decide) (by decide)
                  refine G_iconst 1 dr_cJ1_indexOf_5af95_69 (by decide +kernel) ?_
                  refine G_isub dr_cJ1_indexOf_5af95_70 (G_nam fun z666161 hz666161 => ?_)
                  have ez666161 : z666161.toInt = z666160.toInt - 1 := by rw [gI_sub hz666161 bz666160 (gBl (show Int32.toInt 1 = 1 by decide)) (by decide) (by decide), show Int32.toInt 1 = 1 from by decide]
                  have bz666161 : gB z666161 (-16777214) 33554431 := gB_sub (gI_sub hz666161 bz666160 (gBl (show Int32.toInt 1 = 1 by decide)) (by decide) (by decide)) bz666160 (gBl (show Int32.toInt 1 = 1 by decide)) (by decide) (by decide)
                  refine G_istore (L' := [(9, .int z666161), (8, .int z666159), (7, .int z666151), (6, .int z659467), (5, .int z659466), (0, .ref qs659456), (1, .int p659458), (2, .ref q659455), (3, .int p659459), (4, .int 0)]) dr_cJ1_indexOf_5af95_71 (Nat.le_of_ble_eq_true rfl) rfl ?_
                  refine G_iconst 1 dr_cJ1_indexOf_5af95_73 (by decide +kernel) ?_
                  refine G_istore (L' := [(10, .int 1), (9, .int z666161), (8, .int z666159), (7, .int z666151), (6, .int z659467), (5, .int z659466), (0, .ref qs659456), (1, .int p659458), (2, .ref q659455), (3, .int p659459), (4, .int 0)]) dr_cJ1_indexOf_5af95_74 (Nat.le_of_ble_eq_true rfl) rfl ?_
                  have hlp76_666284 : ∀ (n76_666284 : Nat) (g666279 : Int32) (g666280 : Int32), gB g666279 1 16777217 → gB g666280 (-16777214) 33554431 → 0 ≤ g666280.toInt → g666279.toInt = g666280.toInt - z666151.toInt → 1 ≤ g666279.toInt → g666280.toInt ≤ z666161.toInt → (∀ (k : Nat) (e1 : Int32), tl_RStringLatin1_indexOf2_76_2 z666161 bs659457 f659460 g666279 g666280 k e1 → tl_RStringLatin1_indexOf2_76_2 z666161 bs659457 f659460 (1 : Int32) z666159 k e1) → ((z666161.toInt : Int) + 2 - g666280.toInt).toNat < n76_666284 → G (gV D I) l (gRm 0 0 0 0) (gMA (gV D I) (pp_659465_StringLatin1_indexOf D I P659453 F659454 q659455 qs659456 bs659457 p659458 p659459 f659460 n659461) gNA 0 0) ky_659465_StringLatin1_indexOf 76 [(10, .int g666279), (9, .int z666161), (8, .int g666280), (7, .int z666151), (6, .int z659467), (5, .int z659466), (0, .ref qs659456), (1, .int p659458), (2, .ref q659455), (3, .int p659459), (4, .int 0)] [] (va_pl P659453 F659454) 0 0 := by
                    intro n76_666284
                    induction n76_666284 with
                    | zero => intro g666279 g666280 bg666279 bg666280 x666281 x666282 x666283 x666284 kt76_666284 hm76_666284; exact absurd hm76_666284 (Nat.not_lt_zero _)
                    | succ n76_666284 ih76_666284 =>
                      intro g666279 g666280 bg666279 bg666280 x666281 x666282 x666283 x666284 kt76_666284 hm76_666284
                      refine G_iload 2 dr_cJ1_indexOf_5af95_76 rfl ?_
                      refine G_iload 1 dr_cJ1_indexOf_5af95_78 rfl ?_
                      refine G_icmp_ge 103 dr_cJ1_indexOf_5af95_80 (by decide +kernel) (fun hc666285 => ?_) (fun hc666285 => ?_)
                      · have r666286 : z666161.toInt ≤ g666280.toInt := gC_le hc666285
                        have hx666287 : tl_RStringLatin1_indexOf2_76_2 z666161 bs659457 f659460 (1 : Int32) z666159 103 g666280 := kt76_666284 103 g666280 (fun R c1 c2 c3 => c1 g666279 g666280 bg666279 bg666280 r666286)
                        refine G_iload 2 dr_cJ1_indexOf_5af95_103 rfl ?_
                        refine G_iload 1 dr_cJ1_indexOf_5af95_105 rfl ?_
                        refine G_icmp_ne 113 dr_cJ1_indexOf_5af95_107 (by decide +kernel) (fun hc666288 => ?_) (fun hc666288 => ?_)
                        · have r666289 : g666280.toInt ≠ z666161.toInt := gC_ne hc666288
                          obtain ⟨z666290, hz666290⟩ : ∃ z : Int32, z = z666151 + Int32.ofInt 1 := ⟨_, rfl⟩
                          have ez666290 : z666290.toInt = z666151.toInt + 1 := gI_inc hz666290 (by decide) bz666151'' (by decide) (by decide)
                          have bz666290 : gB z666290 (-16777214) 16777216 := ⟨by omega, by omega⟩
                          refine G_iinc (L' := [(7, .int z666290), (10, .int g666279), (9, .int z666161), (8, .int g666280), (6, .int z659467), (5, .int z659466), (0, .ref qs659456), (1, .int p659458), (2, .ref q659455), (3, .int p659459), (4, .int 0)]) z666290 3 dr_cJ1_indexOf_5af95_113 rfl hz666290.symm (Nat.le_of_ble_eq_true rfl) rfl ?_
                          refine G_goto 14 dr_cJ1_indexOf_5af95_116 (by decide +kernel) ?_
                          refine G_lv (L' := [(7, .int z666290), (6, .int z659467), (5, .int z659466), (0, .ref qs659456), (1, .int p659458), (2, .ref q659455), (3, .int p659459), (4, .int 0)]) [0, 4, 5, 6, 7, 8, 9, 10] rfl ?_
                          exact ih14_665378 z666290 (gB_w bz666290 (by decide) (by decide)) (by have qa0 : Int32.toInt 0 = 0 := (by decide); omega) (fun k e1 ht => kt14_665378 k e1 (fun R c1 c2 c3 c4 c5 c6 c7 c8 c9 => c6 g665377 z665383 z666151 z666159 z666160 z666161 g666280 z666290 k e1 bg665377 r665382 hz665383 r665538 hx666154 r666158 ez666159 ez666160 ez666161 hx666287 r666289 ez666290 (ht R c1 c2 c3 c4 c5 c6 c7 c8 c9))) (by have qa0 : Int32.toInt 0 = 0 := (by decide); omega)
                        · have r666291 : g666280.toInt = z666161.toInt := gC_eq hc666288
                          have hx666292 : tl_RStringLatin1_indexOf2_14 z659467 bs659457 z659466 p659459 f659460 (0 : Int32) 110 z666151 := kt14_665378 110 z666151 (fun R c1 c2 c3 c4 c5 c6 c7 c8 c9 => c7 g665377 z665383 z666151 z666159 z666160 z666161 g666280 bg665377 r665382 hz665383 r665538 hx666154 r666158 ez666159 ez666160 ez666161 hx666287 r666291)
                          refine G_iload 3 dr_cJ1_indexOf_5af95_110 rfl ?_
                          exact G_iretA dr_cJ1_indexOf_5af95_112 rfl (Nat.le_of_ble_eq_true rfl) (Nat.le_of_ble_eq_true rfl) ⟨z666151, rfl, rfl, (Nat.le_of_ble_eq_true rfl), (Nat.le_of_ble_eq_true rfl), (gB_w bz666151'' (by decide) (by decide)), (by have qa0 : Int32.toInt 0 = 0 := (by decide); omega), (by first | exact ixP_of (by assumption) (by assumption) (by omega) | exact absurd (show False by omega) not_false), (fun R c1 c2 => c2 z659466 z659467 z666151 hz659466 bz659466 ez659467 hx666292)⟩
                      · have r666293 : g666280.toInt < z666161.toInt := gC_nle hc666285
                        have bg666280' : gB g666280 (-16777214) 33554430 := ⟨by omega, by omega⟩
                        have bz666161' : gB z666161 (-16777213) 33554431 := ⟨by omega, by omega⟩
                        refine G_aload_n 6 dr_cJ1_indexOf_5af95_83 rfl ?_
                        refine G_iload 2 dr_cJ1_indexOf_5af95_84 rfl ?_
                        refine G_kbald (f := fun j => bs659457.getD j 0) dr_cJ1_indexOf_5af95_86 hbs659457 (gB_inr (by omega) (by omega)) (G_nam fun z666294 hz666294 => ?_)
                        have bz666294 : gB z666294 (-2147483648) 2147483647 := gB_any z666294
                        refine G_aload_n 8 dr_cJ1_indexOf_5af95_87 rfl ?_
                        refine G_iload 0 dr_cJ1_indexOf_5af95_88 rfl ?_
                        refine Gp_bald 1 hmq659455 heq659455 dr_cJ1_indexOf_5af95_90 rfl (gB_inr (by omega) (by omega)) (G_nam fun z666295 hz666295 => ?_)
                        have bz666295 : gB z666295 (-128) 127 := by rw [hz666295]; exact bf659460 _
                        refine G_icmp_ne 103 dr_cJ1_indexOf_5af95_91 (by decide +kernel) (fun hc666296 => ?_) (fun hc666296 => ?_)
                        · have r666297 : z666294.toInt ≠ z666295.toInt := gC_ne hc666296
                          have hx666298 : tl_RStringLatin1_indexOf2_76_2 z666161 bs659457 f659460 (1 : Int32) z666159 103 g666280 := kt76_666284 103 g666280 (fun R c1 c2 c3 => c2 g666279 g666280 z666294 z666295 bg666279 bg666280 r666293 hz666294 hz666295 bz666295 r666297)
                          refine G_iload 2 dr_cJ1_indexOf_5af95_103 rfl ?_
                          refine G_iload 1 dr_cJ1_indexOf_5af95_105 rfl ?_
                          refine G_icmp_ne 113 dr_cJ1_indexOf_5af95_107 (by decide +kernel) (fun hc666299 => ?_) (fun hc666299 => ?_)
                          · have r666300 : g666280.toInt ≠ z666161.toInt := gC_ne hc666299
                            obtain ⟨z666301, hz666301⟩ : ∃ z : Int32, z = z666151 + Int32.ofInt 1 := ⟨_, rfl⟩
                            have ez666301 : z666301.toInt = z666151.toInt + 1 := gI_inc hz666301 (by decide) bz666151'' (by decide) (by decide)
                            have bz666301 : gB z666301 (-16777214) 16777216 := ⟨by omega, by omega⟩
                            refine G_iinc (L' := [(7, .int z666301), (10, .int g666279), (9, .int z666161), (8, .int g666280), (6, .int z659467), (5, .int z659466), (0, .ref qs659456), (1, .int p659458), (2, .ref q659455), (3, .int p659459), (4, .int 0)]) z666301 3 dr_cJ1_indexOf_5af95_113 rfl hz666301.symm (Nat.le_of_ble_eq_true rfl) rfl ?_
                            refine G_goto 14 dr_cJ1_indexOf_5af95_116 (by decide +kernel) ?_
                            refine G_lv (L' := [(7, .int z666301), (6, .int z659467), (5, .int z659466), (0, .ref qs659456), (1, .int p659458), (2, .ref q659455), (3, .int p659459), (4, .int 0)]) [0, 4, 5, 6, 7, 8, 9, 10] rfl ?_
                            exact ih14_665378 z666301 (gB_w bz666301 (by decide) (by decide)) (by have qa0 : Int32.toInt 0 = 0 := (by decide); omega) (fun k e1 ht => kt14_665378 k e1 (fun R c1 c2 c3 c4 c5 c6 c7 c8 c9 => c6 g665377 z665383 z666151 z666159 z666160 z666161 g666280 z666301 k e1 bg665377 r665382 hz665383 r665538 hx666154 r666158 ez666159 ez666160 ez666161 hx666298 r666300 ez666301 (ht R c1 c2 c3 c4 c5 c6 c7 c8 c9))) (by have qa0 : Int32.toInt 0 = 0 := (by decide); omega)
                          · have r666302 : g666280.toInt = z666161.toInt := gC_eq hc666299
                            have bg666280'' : gB g666280 (-16777213) 33554430 := ⟨by omega, by omega⟩
                            have bz666161'' : gB z666161 (-16777213) 33554430 := ⟨by omega, by omega⟩
                            have hx666303 : tl_RStringLatin1_indexOf2_14 z659467 bs659457 z659466 p659459 f659460 (0 : Int32) 110 z666151 := kt14_665378 110 z666151 (fun R c1 c2 c3 c4 c5 c6 c7 c8 c9 => c7 g665377 z665383 z666151 z666159 z666160 z666161 g666280 bg665377 r665382 hz665383 r665538 hx666154 r666158 ez666159 ez666160 ez666161 hx666298 r666302)
                            refine G_iload 3 dr_cJ1_indexOf_5af95_110 rfl ?_
                            exact G_iretA dr_cJ1_indexOf_5af95_112 rfl (Nat.le_of_ble_eq_true rfl) (Nat.le_of_ble_eq_true rfl) ⟨z666151, rfl, rfl, (Nat.le_of_ble_eq_true rfl), (Nat.le_of_ble_eq_true rfl), (gB_w bz666151'' (by decide) (by decide)), (by have qa0 : Int32.toInt 0 = 0 := (by decide); omega), (by first | exact ixP_of (by assumption) (by assumption) (by omega) | exact absurd (show False by omega) not_false), (fun R c1 c2 => c2 z659466 z659467 z666151 hz659466 bz659466 ez659467 hx666303)⟩
                        · have r666304 : z666294.toInt = z666295.toInt := gC_eq hc666296
                          have bz666294' : gB z666294 (-128) 127 := ⟨by omega, by omega⟩
                          obtain ⟨z666305, hz666305⟩ : ∃ z : Int32, z = g666280 + Int32.ofInt 1 := ⟨_, rfl⟩
                          have ez666305 : z666305.toInt = g666280.toInt + 1 := gI_inc hz666305 (by decide) bg666280' (by decide) (by decide)
                          have bz666305 : gB z666305 (-16777213) 33554431 := ⟨by omega, by omega⟩
                          refine G_iinc (L' := [(8, .int z666305), (10, .int g666279), (9, .int z666161), (7, .int z666151), (6, .int z659467), (5, .int z659466), (0, .ref qs659456), (1, .int p659458), (2, .ref q659455), (3, .int p659459), (4, .int 0)]) z666305 2 dr_cJ1_indexOf_5af95_94 rfl hz666305.symm (Nat.le_of_ble_eq_true rfl) rfl ?_
                          have bg666279' : gB g666279 1 16777216 := ⟨by omega, by omega⟩
                          obtain ⟨z666306, hz666306⟩ : ∃ z : Int32, z = g666279 + Int32.ofInt 1 := ⟨_, rfl⟩
                          have ez666306 : z666306.toInt = g666279.toInt + 1 := gI_inc hz666306 (by decide) bg666279' (by decide) (by decide)
                          have bz666306 : gB z666306 2 16777217 := ⟨by omega, by omega⟩
                          refine G_iinc (L' := [(10, .int z666306), (8, .int z666305), (9, .int z666161), (7, .int z666151), (6, .int z659467), (5, .int z659466), (0, .ref qs659456), (1, .int p659458), (2, .ref q659455), (3, .int p659459), (4, .int 0)]) z666306 1 dr_cJ1_indexOf_5af95_97 rfl hz666306.symm (Nat.le_of_ble_eq_true rfl) rfl ?_
                          refine G_goto 76 dr_cJ1_indexOf_5af95_100 (by decide +kernel) ?_
                          refine G_lv (L' := [(10, .int z666306), (9, .int z666161), (8, .int z666305), (7, .int z666151), (6, .int z659467), (5, .int z659466), (0, .ref qs659456), (1, .int p659458), (2, .ref q659455), (3, .int p659459), (4, .int 0)]) [0, 2, 1, 3, 4, 5, 6, 7, 8, 9, 10] rfl ?_
                          exact ih76_666284 z666306 z666305 (gB_w bz666306 (by decide) (by decide)) (gB_w bz666305 (by decide) (by decide)) (by have qa0 : Int32.toInt 0 = 0 := (by decide); omega) (by have qa0 : Int32.toInt 0 = 0 := (by decide); omega) (by have qa0 : Int32.toInt 0 = 0 := (by decide); omega) (by have qa0 : Int32.toInt 0 = 0 := (by decide); omega) (fun k e1 ht => kt76_666284 k e1 (fun R c1 c2 c3 => c3 g666279 g666280 z666294 z666295 z666305 z666306 k e1 bg666279 bg666280 r666293 hz666294 hz666295 bz666295 r666304 ez666305 ez666306 (ht R c1 c2 c3))) (by have qa0 : Int32.toInt 0 = 0 := (by decide); omega)
                  exact hlp76_666284 (((z666161.toInt : Int) + 2 - z666159.toInt).toNat + 1) 1 z666159 (gB_w (gBl (show Int32.toInt 1 = 1 by decide)) (by decide) (by decide)) (gB_w bz666159 (by decide) (by decide)) (by have qa0 : Int32.toInt 0 = 0 := (by decide); have qa1 : Int32.toInt 1 = 1 := (by decide); omega) (by have qa0 : Int32.toInt 0 = 0 := (by decide); have qa1 : Int32.toInt 1 = 1 := (by decide); omega) (by have qa0 : Int32.toInt 0 = 0 := (by decide); have qa1 : Int32.toInt 1 = 1 := (by decide); omega) (by have qa0 : Int32.toInt 0 = 0 := (by decide); have qa1 : Int32.toInt 1 = 1 := (by decide); omega) (fun k e1 ht => ht) (Nat.lt_succ_self _)
              · have r666307 : z666151.toInt ≤ z659467.toInt := gC_nlt hc666152
                have bz666151' : gB z666151 (-2147483645) 16777215 := ⟨by omega, by omega⟩
                refine G_aload_n 3 dr_cJ1_indexOf_5af95_40 rfl ?_
                refine G_iload 0 dr_cJ1_indexOf_5af95_41 rfl ?_
                refine G_kbald (f := fun j => bs659457.getD j 0) dr_cJ1_indexOf_5af95_43 hbs659457 (gB_inr (by omega) (by omega)) (G_nam fun z666308 hz666308 => ?_)
                have bz666308 : gB z666308 (-2147483648) 2147483647 := gB_any z666308
                refine G_iload 2 dr_cJ1_indexOf_5af95_44 rfl ?_
                refine G_icmp_eq 52 dr_cJ1_indexOf_5af95_46 (by decide +kernel) (fun hc666309 => ?_) (fun hc666309 => ?_)
                · have r666310 : z666308.toInt = z659466.toInt := gC_eq hc666309
                  have bz666308' : gB z666308 (-128) 127 := ⟨by omega, by omega⟩
                  have hx666311 : tl_RStringLatin1_indexOf2_30 z659467 bs659457 z659466 g665377 52 z666151 := kt30_666150 52 z666151 (fun R c1 c2 c3 => c2 g666148 z666151 z666308 bg666148 ez666151 r666307 hz666308 r666310)
                  refine G_iload 0 dr_cJ1_indexOf_5af95_52 rfl ?_
                  refine G_iload 1 dr_cJ1_indexOf_5af95_54 rfl ?_
                  refine G_icmp_gt 113 dr_cJ1_indexOf_5af95_56 (by decide +kernel) (fun hc666312 => ?_) (fun hc666312 => ?_)
                  · have r666313 : z659467.toInt < z666151.toInt := gC_lt hc666312
                    have bz659467' : gB z659467 (-16777216) 16777214 := ⟨by omega, by omega⟩
                    have bz666151'' : gB z666151 (-16777215) 16777215 := ⟨by omega, by omega⟩
                    obtain ⟨z666314, hz666314⟩ : ∃ z : Int32, z = z666151 + Int32.ofInt 1 := ⟨_, rfl⟩
                    have ez666314 : z666314.toInt = z666151.toInt + 1 := gI_inc hz666314 (by decide) bz666151'' (by decide) (by decide)
                    have bz666314 : gB z666314 (-16777214) 16777216 := ⟨by omega, by omega⟩
                    refine G_iinc (L' := [(7, .int z666314), (6, .int z659467), (5, .int z659466), (0, .ref qs659456), (1, .int p659458), (2, .ref q659455), (3, .int p659459), (4, .int 0)]) z666314 0 dr_cJ1_indexOf_5af95_113 rfl hz666314.symm (Nat.le_of_ble_eq_true rfl) rfl ?_
                    refine G_goto 14 dr_cJ1_indexOf_5af95_116 (by decide +kernel) ?_
                    exact ih14_665378 z666314 (gB_w bz666314 (by decide) (by decide)) (by have qa0 : Int32.toInt 0 = 0 := (by decide); omega) (fun k e1 ht => kt14_665378 k e1 (fun R c1 c2 c3 c4 c5 c6 c7 c8 c9 => c5 g665377 z665383 z666151 z666314 k e1 bg665377 r665382 hz665383 r665538 hx666311 r666313 ez666314 (ht R c1 c2 c3 c4 c5 c6 c7 c8 c9))) (by have qa0 : Int32.toInt 0 = 0 := (by decide); omega)
                  · have r666315 : z666151.toInt ≤ z659467.toInt := gC_nlt hc666312
                    refine G_iload 0 dr_cJ1_indexOf_5af95_59 rfl ?_
                    refine G_iconst 1 dr_cJ1_indexOf_5af95_61 (by decide +kernel) ?_
                    refine G_iadd dr_cJ1_indexOf_5af95_62 (G_nam fun z666316 hz666316 => ?_)
                    have ez666316 : z666316.toInt = z666151.toInt + 1 := by rw [gI_add hz666316 bz666151' (gBl (show Int32.toInt 1 = 1 by decide)) (by decide) (by decide), show Int32.toInt 1 = 1 from by decide]
                    have bz666316 : gB z666316 (-2147483644) 16777216 := gB_add (gI_add hz666316 bz666151' (gBl (show Int32.toInt 1 = 1 by decide)) (by decide) (by decide)) bz666151' (gBl (show Int32.toInt 1 = 1 by decide)) (by decide) (by decide)
                    refine G_istore (L' := [(8, .int z666316), (7, .int z666151), (6, .int z659467), (5, .int z659466), (0, .ref qs659456), (1, .int p659458), (2, .ref q659455), (3, .int p659459), (4, .int 0)]) dr_cJ1_indexOf_5af95_63 (Nat.le_of_ble_eq_true rfl) rfl ?_
                    refine G_iload 0 dr_cJ1_indexOf_5af95_65 rfl ?_
                    refine G_iload_n 7 dr_cJ1_indexOf_5af95_67 rfl ?_
                    refine G_iadd dr_cJ1_indexOf_5af95_68 (G_nam fun z666317 hz666317 => ?_)
                    have ez666317 : z666317.toInt = z666316.toInt + p659459.toInt := by rw [gI_add hz666317 bz666316 bp659459 (by decide) (by decide)]
                    have bz666317 : gB z666317 (-2147483643) 33554432 := gB_add (gI_add hz666317 bz666316 bp659459 (by decide) (by decide)) bz666316 bp659459 (by decide) (by decide)
                    refine G_iconst 1 dr_cJ1_indexOf_5af95_69 (by decide +kernel) ?_
                    refine G_isub dr_cJ1_indexOf_5af95_70 (G_nam fun z666318 hz666318 => ?_)
                    have ez666318 : z666318.toInt = z666317.toInt - 1 := by rw [gI_sub hz666318 bz666317 (gBl (show Int32.toInt 1 = 1 by decide)) (by decide) (by decide), show Int32.toInt 1 = 1 from by decide]
                    have bz666318 : gB z666318 (-2147483644) 33554431 := gB_sub (gI_sub hz666318 bz666317 (gBl (show Int32.toInt 1 = 1 by decide)) (by decide) (by decide)) bz666317 (gBl (show Int32.toInt 1 = 1 by decide)) (by decide) (by decide)
                    refine G_istore (L' := [(9, .int z666318), (8, .int z666316), (7, .int z666151), (6, .int z659467), (5, .int z659466), (0, .ref qs659456), (1, .int p659458), (2, .ref q659455), (3, .int p659459), (4, .int 0)]) dr_cJ1_indexOf_5af95_71 (Nat.le_of_ble_eq_true rfl) rfl ?_
                    refine G_iconst 1 dr_cJ1_indexOf_5af95_73 (by decide +kernel) ?_
                    refine G_istore (L' := [(10, .int 1), (9, .int z666318), (8, .int z666316), (7, .int z666151), (6, .int z659467), (5, .int z659466), (0, .ref qs659456), (1, .int p659458), (2, .ref q659455), (3, .int p659459), (4, .int 0)]) dr_cJ1_indexOf_5af95_74 (Nat.le_of_ble_eq_true rfl) rfl ?_
                    have hlp76_666441 : ∀ (n76_666441 : Nat) (g666436 : Int32) (g666437 : Int32), gB g666436 1 16777217 → gB g666437 (-2147483644) 33554431 → 0 ≤ g666437.toInt → g666436.toInt = g666437.toInt - z666151.toInt → 1 ≤ g666436.toInt → g666437.toInt ≤ z666318.toInt → (∀ (k : Nat) (e1 : Int32), tl_RStringLatin1_indexOf2_76_3 z666318 bs659457 f659460 g666436 g666437 k e1 → tl_RStringLatin1_indexOf2_76_3 z666318 bs659457 f659460 (1 : Int32) z666316 k e1) → ((z666318.toInt : Int) + 2 - g666437.toInt).toNat < n76_666441 → G (gV D I) l (gRm 0 0 0 0) (gMA (gV D I) (pp_659465_StringLatin1_indexOf D I P659453 F659454 q659455 qs659456 bs659457 p659458 p659459 f659460 n659461) gNA 0 0) ky_659465_StringLatin1_indexOf 76 [(10, .int g666436), (9, .int z666318), (8, .int g666437), (7, .int z666151), (6, .int z659467), (5, .int z659466), (0, .ref qs659456), (1, .int p659458), (2, .ref q659455), (3, .int p659459), (4, .int 0)] [] (va_pl P659453 F659454) 0 0 := by
                      intro n76_666441
                      induction n76_666441 with
                      | zero => intro g666436 g666437 bg666436 bg666437 x666438 x666439 x666440 x666441 kt76_666441 hm76_666441; exact absurd hm76_666441 (Nat.not_lt_zero _)
                      | succ n76_666441 ih76_666441 =>
                        intro g666436 g666437 bg666436 bg666437 x666438 x666439 x666440 x666441 kt76_666441 hm76_666441
                        refine G_iload 2 dr_cJ1_indexOf_5af95_76 rfl ?_
                        refine G_iload 1 dr_cJ1_indexOf_5af95_78 rfl ?_
                        refine G_icmp_ge 103 dr_cJ1_indexOf_5af95_80 (by decide +kernel) (fun hc666442 => ?_) (fun hc666442 => ?_)
                        · have r666443 : z666318.toInt ≤ g666437.toInt := gC_le hc666442
                          have hx666444 : tl_RStringLatin1_indexOf2_76_3 z666318 bs659457 f659460 (1 : Int32) z666316 103 g666437 := kt76_666441 103 g666437 (fun R c1 c2 c3 => c1 g666436 g666437 bg666436 bg666437 r666443)
                          refine G_iload 2 dr_cJ1_indexOf_5af95_103 rfl ?_
                          refine G_iload 1 dr_cJ1_indexOf_5af95_105 rfl ?_
                          refine G_icmp_ne 113 dr_cJ1_indexOf_5af95_107 (by decide +kernel) (fun hc666445 => ?_) (fun hc666445 => ?_)
                          · have r666446 : g666437.toInt ≠ z666318.toInt := gC_ne hc666445
                            obtain ⟨z666447, hz666447⟩ : ∃ z : Int32, z = z666151 + Int32.ofInt 1 := ⟨_, rfl⟩
                            have ez666447 : z666447.toInt = z666151.toInt + 1 := gI_inc hz666447 (by decide) bz666151' (by decide) (by decide)
                            have bz666447 : gB z666447 (-2147483644) 16777216 := ⟨by omega, by omega⟩
                            refine G_iinc (L' := [(7, .int z666447), (10, .int g666436), (9, .int z666318), (8, .int g666437), (6, .int z659467), (5, .int z659466), (0, .ref qs659456), (1, .int p659458), (2, .ref q659455), (3, .int p659459), (4, .int 0)]) z666447 3 dr_cJ1_indexOf_5af95_113 rfl hz666447.symm (Nat.le_of_ble_eq_true rfl) rfl ?_
                            refine G_goto 14 dr_cJ1_indexOf_5af95_116 (by decide +kernel) ?_
                            refine G_lv (L' := [(7, .int z666447), (6, .int z659467), (5, .int z659466), (0, .ref qs659456), (1, .int p659458), (2, .ref q659455), (3, .int p659459), (4, .int 0)]) [0, 4, 5, 6, 7, 8, 9, 10] rfl ?_
                            exact ih14_665378 z666447 (gB_w bz666447 (by decide) (by decide)) (by have qa0 : Int32.toInt 0 = 0 := (by decide); omega) (fun k e1 ht => kt14_665378 k e1 (fun R c1 c2 c3 c4 c5 c6 c7 c8 c9 => c8 g665377 z665383 z666151 z666316 z666317 z666318 g666437 z666447 k e1 bg665377 r665382 hz665383 r665538 hx666311 r666315 ez666316 ez666317 ez666318 hx666444 r666446 ez666447 (ht R c1 c2 c3 c4 c5 c6 c7 c8 c9))) (by have qa0 : Int32.toInt 0 = 0 := (by decide); omega)
                          · have r666448 : g666437.toInt = z666318.toInt := gC_eq hc666445
                            have hx666449 : tl_RStringLatin1_indexOf2_14 z659467 bs659457 z659466 p659459 f659460 (0 : Int32) 110 z666151 := kt14_665378 110 z666151 (fun R c1 c2 c3 c4 c5 c6 c7 c8 c9 => c9 g665377 z665383 z666151 z666316 z666317 z666318 g666437 bg665377 r665382 hz665383 r665538 hx666311 r666315 ez666316 ez666317 ez666318 hx666444 r666448)
                            refine G_iload 3 dr_cJ1_indexOf_5af95_110 rfl ?_
                            exact G_iretA dr_cJ1_indexOf_5af95_112 rfl (Nat.le_of_ble_eq_true rfl) (Nat.le_of_ble_eq_true rfl) ⟨z666151, rfl, rfl, (Nat.le_of_ble_eq_true rfl), (Nat.le_of_ble_eq_true rfl), (gB_w bz666151' (by decide) (by decide)), (by have qa0 : Int32.toInt 0 = 0 := (by decide); omega), (by first | exact ixP_of (by assumption) (by assumption) (by omega) | exact absurd (show False by omega) not_false), (fun R c1 c2 => c2 z659466 z659467 z666151 hz659466 bz659466 ez659467 hx666449)⟩
                        · have r666450 : g666437.toInt < z666318.toInt := gC_nle hc666442
                          have bg666437' : gB g666437 (-2147483644) 33554430 := ⟨by omega, by omega⟩
                          have bz666318' : gB z666318 (-2147483643) 33554431 := ⟨by omega, by omega⟩
                          refine G_aload_n 6 dr_cJ1_indexOf_5af95_83 rfl ?_
                          refine G_iload 2 dr_cJ1_indexOf_5af95_84 rfl ?_
                          refine G_kbald (f := fun j => bs659457.getD j 0) dr_cJ1_indexOf_5af95_86 hbs659457 (gB_inr (by omega) (by omega)) (G_nam fun z666451 hz666451 => ?_)
                          have bz666451 : gB z666451 (-2147483648) 2147483647 := gB_any z666451
                          refine G_aload_n 8 dr_cJ1_indexOf_5af95_87 rfl ?_
                          refine G_iload 0 dr_cJ1_indexOf_5af95_88 rfl ?_
                          refine Gp_bald 1 hmq659455 heq659455 dr_cJ1_indexOf_5af95_90 rfl (gB_inr (by omega) (by omega)) (G_nam fun z666452 hz666452 => ?_)
                          have bz666452 : gB z666452 (-128) 127 := by rw [hz666452]; exact bf659460 _
                          refine G_icmp_ne 103 dr_cJ1_indexOf_5af95_91 (by decide +kernel) (fun hc666453 => ?_) (fun hc666453 => ?_)
                          · have r666454 : z666451.toInt ≠ z666452.toInt := gC_ne hc666453
                            have hx666455 : tl_RStringLatin1_indexOf2_76_3 z666318 bs659457 f659460 (1 : Int32) z666316 103 g666437 := kt76_666441 103 g666437 (fun R c1 c2 c3 => c2 g666436 g666437 z666451 z666452 bg666436 bg666437 r666450 hz666451 hz666452 bz666452 r666454)
                            refine G_iload 2 dr_cJ1_indexOf_5af95_103 rfl ?_
                            refine G_iload 1 dr_cJ1_indexOf_5af95_105 rfl ?_
                            refine G_icmp_ne 113 dr_cJ1_indexOf_5af95_107 (by decide +kernel) (fun hc666456 => ?_) (fun hc666456 => ?_)
                            · have r666457 : g666437.toInt ≠ z666318.toInt := gC_ne hc666456
                              obtain ⟨z666458, hz666458⟩ : ∃ z : Int32, z = z666151 + Int32.ofInt 1 := ⟨_, rfl⟩
                              have ez666458 : z666458.toInt = z666151.toInt + 1 := gI_inc hz666458 (by decide) bz666151' (by decide) (by decide)
                              have bz666458 : gB z666458 (-2147483644) 16777216 := ⟨by omega, by omega⟩
                              refine G_iinc (L' := [(7, .int z666458), (10, .int g666436), (9, .int z666318), (8, .int g666437), (6, .int z659467), (5, .int z659466), (0, .ref qs659456), (1, .int p659458), (2, .ref q659455), (3, .int p659459), (4, .int 0)]) z666458 3 dr_cJ1_indexOf_5af95_113 rfl hz666458.symm (Nat.le_of_ble_eq_true rfl) rfl ?_
                              refine G_goto 14 dr_cJ1_indexOf_5af95_116 (by decide +kernel) ?_
                              refine G_lv (L' := [(7, .int z666458), (6, .int z659467), (5, .int z659466), (0, .ref qs659456), (1, .int p659458), (2, .ref q659455), (3, .int p659459), (4, .int 0)]) [0, 4, 5, 6, 7, 8, 9, 10] rfl ?_
                              exact ih14_665378 z666458 (gB_w bz666458 (by decide) (by decide)) (by have qa0 : Int32.toInt 0 = 0 := (by decide); omega) (fun k e1 ht => kt14_665378 k e1 (fun R c1 c2 c3 c4 c5 c6 c7 c8 c9 => c8 g665377 z665383 z666151 z666316 z666317 z666318 g666437 z666458 k e1 bg665377 r665382 hz665383 r665538 hx666311 r666315 ez666316 ez666317 ez666318 hx666455 r666457 ez666458 (ht R c1 c2 c3 c4 c5 c6 c7 c8 c9))) (by have qa0 : Int32.toInt 0 = 0 := (by decide); omega)
                            · have r666459 : g666437.toInt = z666318.toInt := gC_eq hc666456
                              have bg666437'' : gB g666437 (-2147483643) 33554430 := ⟨by omega, by omega⟩
                              have bz666318'' : gB z666318 (-2147483643) 33554430 := ⟨by omega, by omega⟩
                              have hx666460 : tl_RStringLatin1_indexOf2_14 z659467 bs659457 z659466 p659459 f659460 (0 : Int32) 110 z666151 := kt14_665378 110 z666151 (fun R c1 c2 c3 c4 c5 c6 c7 c8 c9 => c9 g665377 z665383 z666151 z666316 z666317 z666318 g666437 bg665377 r665382 hz665383 r665538 hx666311 r666315 ez666316 ez666317 ez666318 hx666455 r666459)
                              refine G_iload 3 dr_cJ1_indexOf_5af95_110 rfl ?_
                              exact G_iretA dr_cJ1_indexOf_5af95_112 rfl (Nat.le_of_ble_eq_true rfl) (Nat.le_of_ble_eq_true rfl) ⟨z666151, rfl, rfl, (Nat.le_of_ble_eq_true rfl), (Nat.le_of_ble_eq_true rfl), (gB_w bz666151' (by decide) (by decide)), (by have qa0 : Int32.toInt 0 = 0 := (by decide); omega), (by first | exact ixP_of (by assumption) (by assumption) (by omega) | exact absurd (show False by omega) not_false), (fun R c1 c2 => c2 z659466 z659467 z666151 hz659466 bz659466 ez659467 hx666460)⟩
                          · have r666461 : z666451.toInt = z666452.toInt := gC_eq hc666453
                            have bz666451' : gB z666451 (-128) 127 := ⟨by omega, by omega⟩
                            obtain ⟨z666462, hz666462⟩ : ∃ z : Int32, z = g666437 + Int32.ofInt 1 := ⟨_, rfl⟩
                            have ez666462 : z666462.toInt = g666437.toInt + 1 := gI_inc hz666462 (by decide) bg666437' (by decide) (by decide)
                            have bz666462 : gB z666462 (-2147483643) 33554431 := ⟨by omega, by omega⟩
                            refine G_iinc (L' := [(8, .int z666462), (10, .int g666436), (9, .int z666318), (7, .int z666151), (6, .int z659467), (5, .int z659466), (0, .ref qs659456), (1, .int p659458), (2, .ref q659455), (3, .int p659459), (4, .int 0)]) z666462 2 dr_cJ1_indexOf_5af95_94 rfl hz666462.symm (Nat.le_of_ble_eq_true rfl) rfl ?_
                            have bg666436' : gB g666436 1 16777216 := ⟨by omega, by omega⟩
                            obtain ⟨z666463, hz666463⟩ : ∃ z : Int32, z = g666436 + Int32.ofInt 1 := ⟨_, rfl⟩
                            have ez666463 : z666463.toInt = g666436.toInt + 1 := gI_inc hz666463 (by decide) bg666436' (by decide) (by decide)
                            have bz666463 : gB z666463 2 16777217 := ⟨by omega, by omega⟩
                            refine G_iinc (L' := [(10, .int z666463), (8, .int z666462), (9, .int z666318), (7, .int z666151), (6, .int z659467), (5, .int z659466), (0, .ref qs659456), (1, .int p659458), (2, .ref q659455), (3, .int p659459), (4, .int 0)]) z666463 1 dr_cJ1_indexOf_5af95_97 rfl hz666463.symm (Nat.le_of_ble_eq_true rfl) rfl ?_
                            refine G_goto 76 dr_cJ1_indexOf_5af95_100 (by decide +kernel) ?_
                            refine G_lv (L' := [(10, .int z666463), (9, .int z666318), (8, .int z666462), (7, .int z666151), (6, .int z659467), (5, .int z659466), (0, .ref qs659456), (1, .int p659458), (2, .ref q659455), (3, .int p659459), (4, .int 0)]) [0, 2, 1, 3, 4, 5, 6, 7, 8, 9, 10] rfl ?_
                            exact ih76_666441 z666463 z666462 (gB_w bz666463 (by decide) (by decide)) (gB_w bz666462 (by decide) (by decide)) (by have qa0 : Int32.toInt 0 = 0 := (by decide); omega) (by have qa0 : Int32.toInt 0 = 0 := (by decide); omega) (by have qa0 : Int32.toInt 0 = 0 := (by decide); omega) (by have qa0 : Int32.toInt 0 = 0 := (by decide); omega) (fun k e1 ht => kt76_666441 k e1 (fun R c1 c2 c3 => c3 g666436 g666437 z666451 z666452 z666462 z666463 k e1 bg666436 bg666437 r666450 hz666451 hz666452 bz666452 r666461 ez666462 ez666463 (ht R c1 c2 c3))) (by have qa0 : Int32.toInt 0 = 0 := (by decide); omega)
                    exact hlp76_666441 (((z666318.toInt : Int) + 2 - z666316.toInt).toNat + 1) 1 z666316 (gB_w (gBl (show Int32.toInt 1 = 1 by decide)) (by decide) (by decide)) (gB_w bz666316 (by decide) (by decide)) (by have qa0 : Int32.toInt 0 = 0 := (by decide); have qa1 : Int32.toInt 1 = 1 := (by decide); omega) (by have qa0 : Int32.toInt 0 = 0 := (by decide); have qa1 : Int32.toInt 1 = 1 := (by decide); omega) (by have qa0 : Int32.toInt 0 = 0 := (by decide); have qa1 : Int32.toInt 1 = 1 := (by decide); omega) (by have qa0 : Int32.toInt 0 = 0 := (by decide); have qa1 : Int32.toInt 1 = 1 := (by decide); omega) (fun k e1 ht => ht) (Nat.lt_succ_self _)
                · have r666464 : z666308.toInt ≠ z659466.toInt := gC_ne hc666309
                  refine G_goto 30 dr_cJ1_indexOf_5af95_49 (by decide +kernel) ?_
                  exact ih30_666150 z666151 (gB_w bz666151' (by decide) (by decide)) (by have qa0 : Int32.toInt 0 = 0 := (by decide); omega) (by have qa0 : Int32.toInt 0 = 0 := (by decide); omega) (fun k e1 ht => kt30_666150 k e1 (fun R c1 c2 c3 => c3 g666148 z666151 z666308 k e1 bg666148 ez666151 r666307 hz666308 r666464 (ht R c1 c2 c3))) (by have qa0 : Int32.toInt 0 = 0 := (by decide); omega)
          exact hlp30_666150 (((z659467.toInt : Int) + 2 - g665377.toInt).toNat + 1) g665377 bg665377' (by have qa0 : Int32.toInt 0 = 0 := (by decide); omega) (by have qa0 : Int32.toInt 0 = 0 := (by decide); omega) (fun k e1 ht => ht) (Nat.lt_succ_self _)
  exact hlp14_665378 (((z659467.toInt : Int) + 2 - 0).toNat + 1) 0 (gB_w (gBl (show Int32.toInt 0 = 0 by decide)) (by decide) (by decide)) (by have qa0 : Int32.toInt 0 = 0 := (by decide); omega) (fun k e1 ht => ht) (Nat.lt_succ_self _)
/- tr_RStringLatin1_indexOf: result -/
def tr_RStringLatin1_indexOf (bs : List Int32) (a1_v : Nat → Int32) (a1_n : Nat) (o1 : Int32) : Prop := ∀ R : (Int32) → Prop,
  (∀ (x1 : Int32) (x2 : Int32) (x3 : Int32) (x4 : Int32) (x5 : Int32), x1.toInt = (a1_n : Nat) → x1.toInt ≠ 0 → x2.toInt = (bs.length : Int) → x2.toInt ≠ 0 → x3.toInt = (bs.length : Int) → x4.toInt = (a1_n : Nat) → gB x5 (-2147483646) 16777215 → tr_RStringLatin1_indexOf2 bs x3 x4 a1_v x5 → R x5) →
  (∀ (x1 : Int32) (x2 : Int32), x1.toInt = (a1_n : Nat) → x1.toInt ≠ 0 → x2.toInt = (bs.length : Int) → x2.toInt = 0 → R (-1 : Int32)) →
  R o1
