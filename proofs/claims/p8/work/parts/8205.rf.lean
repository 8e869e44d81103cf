theorem dr_cJ0_isLatin1_aae02_0 : decode cJ0_isLatin1_aae02 0 = .ok (.getstatic 38, 3) := by decide +kernel
theorem dr_cJ0_isLatin1_aae02_3 : decode cJ0_isLatin1_aae02 3 = .ok (.ifCond .eq 14, 3) := by decide +kernel
theorem dr_cJ0_isLatin1_aae02_6 : decode cJ0_isLatin1_aae02 6 = .ok (.aload_n 0, 1) := by decide +kernel
theorem dr_cJ0_isLatin1_aae02_7 : decode cJ0_isLatin1_aae02 7 = .ok (.getfield 15, 3) := by decide +kernel
theorem dr_cJ0_isLatin1_aae02_10 : decode cJ0_isLatin1_aae02 10 = .ok (.ifCond .ne 7, 3) := by decide +kernel
theorem dr_cJ0_isLatin1_aae02_13 : decode cJ0_isLatin1_aae02 13 = .ok (.iconst 1, 1) := by decide +kernel
theorem dr_cJ0_isLatin1_aae02_14 : decode cJ0_isLatin1_aae02 14 = .ok (.goto 4, 3) := by decide +kernel
theorem dr_cJ0_isLatin1_aae02_18 : decode cJ0_isLatin1_aae02 18 = .ok (.ireturn, 1) := by decide +kernel
theorem dr_cJ1_charAt_3b067_0 : decode cJ1_charAt_3b067 0 = .ok (.iload_n 1, 1) := by decide +kernel
theorem dr_cJ1_charAt_3b067_1 : decode cJ1_charAt_3b067 1 = .ok (.aload_n 0, 1) := by decide +kernel
theorem dr_cJ1_charAt_3b067_2 : decode cJ1_charAt_3b067 2 = .ok (.arraylength, 1) := by decide +kernel
theorem dr_cJ1_charAt_3b067_3 : decode cJ1_charAt_3b067 3 = .ok (.invokestatic 9, 3) := by decide +kernel
theorem wr_3_78 : (Jvm.Cond.methodLink "java/lang/StringLatin1" (9 : Nat) ({ cls := "java/lang/String", name := "checkIndex", desc := "(II)V" } : Jvm.MethodName)) ∈ gw := gw_3 78 rfl rfl
theorem dr_cJ1_charAt_3b067_6 : decode cJ1_charAt_3b067 6 = .ok (.aload_n 0, 1) := by decide +kernel
theorem dr_cJ1_charAt_3b067_7 : decode cJ1_charAt_3b067 7 = .ok (.iload_n 1, 1) := by decide +kernel
theorem dr_cJ1_charAt_3b067_8 : decode cJ1_charAt_3b067 8 = .ok (.baload, 1) := by decide +kernel
theorem dr_cJ1_charAt_3b067_9 : decode cJ1_charAt_3b067 9 = .ok (.sipush 255, 3) := by decide +kernel
theorem dr_cJ1_charAt_3b067_12 : decode cJ1_charAt_3b067 12 = .ok (.iand, 1) := by decide +kernel
theorem dr_cJ1_charAt_3b067_13 : decode cJ1_charAt_3b067 13 = .ok (.i2c, 1) := by decide +kernel
theorem dr_cJ1_charAt_3b067_14 : decode cJ1_charAt_3b067 14 = .ok (.ireturn, 1) := by decide +kernel
theorem dr_cJ0_charAt_5068e_0 : decode cJ0_charAt_5068e 0 = .ok (.aload_n 0, 1) := by decide +kernel
theorem dr_cJ0_charAt_5068e_1 : decode cJ0_charAt_5068e 1 = .ok (.invokevirtual 492, 3) := by decide +kernel
theorem wr_3_71 : (Jvm.Cond.methodLink "java/lang/String" (492 : Nat) ({ cls := "java/lang/String", name := "isLatin1", desc := "()Z" } : Jvm.MethodName)) ∈ gw := gw_3 71 rfl rfl
theorem wr_3_74 : (Jvm.Cond.code ({ cls := "java/lang/String", name := "isLatin1", desc := "()Z" } : Jvm.MethodName) prog_34_method_154_code (1 : Nat) (Option.some Jvm.ClassFile.FieldType.boolean)) ∈ gw := gw_3 74 rfl rfl
theorem wr_3_72 : (Jvm.Cond.instanceMethod ({ cls := "java/lang/String", name := "isLatin1", desc := "()Z" } : Jvm.MethodName)) ∈ gw := gw_3 72 rfl rfl
theorem wr_3_73 : (Jvm.Cond.selects "java/lang/String" ({ cls := "java/lang/String", name := "isLatin1", desc := "()Z" } : Jvm.MethodName) ({ cls := "java/lang/String", name := "isLatin1", desc := "()Z" } : Jvm.MethodName)) ∈ gw := gw_3 73 rfl rfl
theorem dr_cJ0_charAt_5068e_4 : decode cJ0_charAt_5068e 4 = .ok (.ifCond .eq 12, 3) := by decide +kernel
theorem dr_cJ0_charAt_5068e_7 : decode cJ0_charAt_5068e 7 = .ok (.aload_n 0, 1) := by decide +kernel
theorem dr_cJ0_charAt_5068e_8 : decode cJ0_charAt_5068e 8 = .ok (.getfield 9, 3) := by decide +kernel
theorem dr_cJ0_charAt_5068e_11 : decode cJ0_charAt_5068e 11 = .ok (.iload_n 1, 1) := by decide +kernel
theorem dr_cJ0_charAt_5068e_12 : decode cJ0_charAt_5068e 12 = .ok (.invokestatic 495, 3) := by decide +kernel
theorem wr_3_75 : (Jvm.Cond.methodLink "java/lang/String" (495 : Nat) ({ cls := "java/lang/StringLatin1", name := "charAt", desc := "([BI)C" } : Jvm.MethodName)) ∈ gw := gw_3 75 rfl rfl
theorem wr_3_77 : (Jvm.Cond.code ({ cls := "java/lang/StringLatin1", name := "charAt", desc := "([BI)C" } : Jvm.MethodName) prog_37_method_2_code (2 : Nat) (Option.some Jvm.ClassFile.FieldType.char)) ∈ gw := gw_3 77 rfl rfl
theorem wr_3_76 : (Jvm.Cond.static ({ cls := "java/lang/StringLatin1", name := "charAt", desc := "([BI)C" } : Jvm.MethodName)) ∈ gw := gw_3 76 rfl rfl
theorem dr_cJ0_charAt_5068e_15 : decode cJ0_charAt_5068e 15 = .ok (.ireturn, 1) := by decide +kernel
theorem dr_cJ1_indexOf_5af95_0 : decode cJ1_indexOf_5af95 0 = .ok (.aload_n 2, 1) := by decide +kernel
theorem dr_cJ1_indexOf_5af95_1 : decode cJ1_indexOf_5af95 1 = .ok (.iconst 0, 1) := by decide +kernel
theorem dr_cJ1_indexOf_5af95_2 : decode cJ1_indexOf_5af95 2 = .ok (.baload, 1) := by decide +kernel
theorem dr_cJ1_indexOf_5af95_3 : decode cJ1_indexOf_5af95 3 = .ok (.istore 5, 2) := by decide +kernel
theorem dr_cJ1_indexOf_5af95_5 : decode cJ1_indexOf_5af95 5 = .ok (.iload_n 1, 1) := by decide +kernel
theorem dr_cJ1_indexOf_5af95_6 : decode cJ1_indexOf_5af95 6 = .ok (.iload_n 3, 1) := by decide +kernel
theorem dr_cJ1_indexOf_5af95_7 : decode cJ1_indexOf_5af95 7 = .ok (.isub, 1) := by decide +kernel
theorem dr_cJ1_indexOf_5af95_8 : decode cJ1_indexOf_5af95 8 = .ok (.istore 6, 2) := by decide +kernel
theorem dr_cJ1_indexOf_5af95_10 : decode cJ1_indexOf_5af95 10 = .ok (.iload 4, 2) := by decide +kernel
theorem dr_cJ1_indexOf_5af95_12 : decode cJ1_indexOf_5af95 12 = .ok (.istore 7, 2) := by decide +kernel
theorem dr_cJ1_indexOf_5af95_14 : decode cJ1_indexOf_5af95 14 = .ok (.iload 7, 2) := by decide +kernel
theorem dr_cJ1_indexOf_5af95_16 : decode cJ1_indexOf_5af95 16 = .ok (.iload 6, 2) := by decide +kernel
theorem dr_cJ1_indexOf_5af95_18 : decode cJ1_indexOf_5af95 18 = .ok (.if_icmp .gt 101, 3) := by decide +kernel
theorem dr_cJ1_indexOf_5af95_119 : decode cJ1_indexOf_5af95 119 = .ok (.iconst (-1), 1) := by decide +kernel
theorem dr_cJ1_indexOf_5af95_120 : decode cJ1_indexOf_5af95 120 = .ok (.ireturn, 1) := by decide +kernel
theorem dr_cJ1_indexOf_5af95_21 : decode cJ1_indexOf_5af95 21 = .ok (.aload_n 0, 1) := by decide +kernel
theorem dr_cJ1_indexOf_5af95_22 : decode cJ1_indexOf_5af95 22 = .ok (.iload 7, 2) := by decide +kernel
theorem dr_cJ1_indexOf_5af95_24 : decode cJ1_indexOf_5af95 24 = .ok (.baload, 1) := by decide +kernel
theorem dr_cJ1_indexOf_5af95_25 : decode cJ1_indexOf_5af95 25 = .ok (.iload 5, 2) := by decide +kernel
theorem dr_cJ1_indexOf_5af95_27 : decode cJ1_indexOf_5af95 27 = .ok (.if_icmp .eq 25, 3) := by decide +kernel
theorem dr_cJ1_indexOf_5af95_52 : decode cJ1_indexOf_5af95 52 = .ok (.iload 7, 2) := by decide +kernel
theorem dr_cJ1_indexOf_5af95_54 : decode cJ1_indexOf_5af95 54 = .ok (.iload 6, 2) := by decide +kernel
theorem dr_cJ1_indexOf_5af95_56 : decode cJ1_indexOf_5af95 56 = .ok (.if_icmp .gt 57, 3) := by decide +kernel
theorem dr_cJ1_indexOf_5af95_113 : decode cJ1_indexOf_5af95 113 = .ok (.iinc 7 1, 3) := by decide +kernel
theorem dr_cJ1_indexOf_5af95_116 : decode cJ1_indexOf_5af95 116 = .ok (.goto (-102), 3) := by decide +kernel
theorem dr_cJ1_indexOf_5af95_59 : decode cJ1_indexOf_5af95 59 = .ok (.iload 7, 2) := by decide +kernel
theorem dr_cJ1_indexOf_5af95_61 : decode cJ1_indexOf_5af95 61 = .ok (.iconst 1, 1) := by decide +kernel
theorem dr_cJ1_indexOf_5af95_62 : decode cJ1_indexOf_5af95 62 = .ok (.iadd, 1) := by decide +kernel
theorem dr_cJ1_indexOf_5af95_63 : decode cJ1_indexOf_5af95 63 = .ok (.istore 8, 2) := by decide +kernel
theorem dr_cJ1_indexOf_5af95_65 : decode cJ1_indexOf_5af95 65 = .ok (.iload 8, 2) := by decide +kernel
theorem dr_cJ1_indexOf_5af95_67 : decode cJ1_indexOf_5af95 67 = .ok (.iload_n 3, 1) := by decide +kernel
theorem dr_cJ1_indexOf_5af95_68 : decode cJ1_indexOf_5af95 68 = .ok (.iadd, 1) := by decide +kernel
theorem dr_cJ1_indexOf_5af95_69 : decode cJ1_indexOf_5af95 69 = .ok (.iconst 1, 1) := by decide +kernel
theorem dr_cJ1_indexOf_5af95_70 : decode cJ1_indexOf_5af95 70 = .ok (.isub, 1) := by decide +kernel
theorem dr_cJ1_indexOf_5af95_71 : decode cJ1_indexOf_5af95 71 = .ok (.istore 9, 2) := by decide +kernel
theorem dr_cJ1_indexOf_5af95_73 : decode cJ1_indexOf_5af95 73 = .ok (.iconst 1, 1) := by decide +kernel
theorem dr_cJ1_indexOf_5af95_74 : decode cJ1_indexOf_5af95 74 = .ok (.istore 10, 2) := by decide +kernel
theorem dr_cJ1_indexOf_5af95_76 : decode cJ1_indexOf_5af95 76 = .ok (.iload 8, 2) := by decide +kernel
theorem dr_cJ1_indexOf_5af95_78 : decode cJ1_indexOf_5af95 78 = .ok (.iload 9, 2) := by decide +kernel
theorem dr_cJ1_indexOf_5af95_80 : decode cJ1_indexOf_5af95 80 = .ok (.if_icmp .ge 23, 3) := by decide +kernel
theorem dr_cJ1_indexOf_5af95_103 : decode cJ1_indexOf_5af95 103 = .ok (.iload 8, 2) := by decide +kernel
theorem dr_cJ1_indexOf_5af95_105 : decode cJ1_indexOf_5af95 105 = .ok (.iload 9, 2) := by decide +kernel
theorem dr_cJ1_indexOf_5af95_107 : decode cJ1_indexOf_5af95 107 = .ok (.if_icmp .ne 6, 3) := by decide +kernel
theorem dr_cJ1_indexOf_5af95_110 : decode cJ1_indexOf_5af95 110 = .ok (.iload 7, 2) := by decide +kernel
theorem dr_cJ1_indexOf_5af95_112 : decode cJ1_indexOf_5af95 112 = .ok (.ireturn, 1) := by decide +kernel
theorem dr_cJ1_indexOf_5af95_83 : decode cJ1_indexOf_5af95 83 = .ok (.aload_n 0, 1) := by decide +kernel
theorem dr_cJ1_indexOf_5af95_84 : decode cJ1_indexOf_5af95 84 = .ok (.iload 8, 2) := by decide +kernel
theorem dr_cJ1_indexOf_5af95_86 : decode cJ1_indexOf_5af95 86 = .ok (.baload, 1) := by decide +kernel
theorem dr_cJ1_indexOf_5af95_87 : decode cJ1_indexOf_5af95 87 = .ok (.aload_n 2, 1) := by decide +kernel
theorem dr_cJ1_indexOf_5af95_88 : decode cJ1_indexOf_5af95 88 = .ok (.iload 10, 2) := by decide +kernel
theorem dr_cJ1_indexOf_5af95_90 : decode cJ1_indexOf_5af95 90 = .ok (.baload, 1) := by decide +kernel
theorem dr_cJ1_indexOf_5af95_91 : decode cJ1_indexOf_5af95 91 = .ok (.if_icmp .ne 12, 3) := by decide +kernel
theorem dr_cJ1_indexOf_5af95_94 : decode cJ1_indexOf_5af95 94 = .ok (.iinc 8 1, 3) := by decide +kernel
theorem dr_cJ1_indexOf_5af95_97 : decode cJ1_indexOf_5af95 97 = .ok (.iinc 10 1, 3) := by decide +kernel
theorem dr_cJ1_indexOf_5af95_100 : decode cJ1_indexOf_5af95 100 = .ok (.goto (-24), 3) := by decide +kernel
theorem dr_cJ1_indexOf_5af95_30 : decode cJ1_indexOf_5af95 30 = .ok (.iinc 7 1, 3) := by decide +kernel
theorem dr_cJ1_indexOf_5af95_33 : decode cJ1_indexOf_5af95 33 = .ok (.iload 7, 2) := by decide +kernel
theorem dr_cJ1_indexOf_5af95_35 : decode cJ1_indexOf_5af95 35 = .ok (.iload 6, 2) := by decide +kernel
theorem dr_cJ1_indexOf_5af95_37 : decode cJ1_indexOf_5af95 37 = .ok (.if_icmp .gt 15, 3) := by decide +kernel
theorem dr_cJ1_indexOf_5af95_40 : decode cJ1_indexOf_5af95 40 = .ok (.aload_n 0, 1) := by decide +kernel
theorem dr_cJ1_indexOf_5af95_41 : decode cJ1_indexOf_5af95 41 = .ok (.iload 7, 2) := by decide +kernel
theorem dr_cJ1_indexOf_5af95_43 : decode cJ1_indexOf_5af95 43 = .ok (.baload, 1) := by decide +kernel
theorem dr_cJ1_indexOf_5af95_44 : decode cJ1_indexOf_5af95 44 = .ok (.iload 5, 2) := by decide +kernel
theorem dr_cJ1_indexOf_5af95_46 : decode cJ1_indexOf_5af95 46 = .ok (.if_icmp .eq 6, 3) := by decide +kernel
theorem dr_cJ1_indexOf_5af95_49 : decode cJ1_indexOf_5af95 49 = .ok (.goto (-19), 3) := by decide +kernel
abbrev ky_657399_String_isLatin1 : gKey := (cJ0_isLatin1_aae02, 1, "java/lang/String", (some FieldType.boolean), [], "isLatin1", fun _ _ => True)
def pp_657399_String_isLatin1 (D : va_G) (I : FieldType → ClassId) (P657394 : List Nat) (F657395 : Nat → va_E) (qs657396 : Nat) (qb657397 : Nat) (bs657398 : List Int32) : Option Value → va_W → Nat → Nat → Prop := fun r w dc ds => r = some (.int 1) ∧ w = va_pl P657394 F657395 ∧ dc ≤ 0 ∧ ds ≤ 0
set_option maxRecDepth 100000 in
set_option maxHeartbeats 4000000 in
theorem cp_657399_String_isLatin1 (l : Launch) (hl0 : l.stackTraces = false) (D : va_G) (I : FieldType → ClassId) (P657394 : List Nat) (F657395 : Nat → va_E) (qs657396 : Nat) (qb657397 : Nat) (bs657398 : List Int32) (hbs657398 : ∀ A s H, (gV D I).2.2.2.1 A s H → gSC qs657396 qb657397 bs657398 A s H) (nbs657398 : (bs657398.length : Int) ≤ 65535) (lbs657398 : gLB bs657398) : CtA (gV D I) l yJ0_isLatin1_aae02 cJ0_isLatin1_aae02 1 (some FieldType.boolean) 0 0 0 0 [.ref qs657396] (va_pl P657394 F657395) (pp_657399_String_isLatin1 D I P657394 F657395 qs657396 qb657397 bs657398) gNA := by
  refine CtA_ofF hl0 (by decide +kernel) (Nat.le_of_ble_eq_true rfl) ?_
  refine G_gets dr_cJ0_isLatin1_aae02_0 wr_3_65 gz_cs (fun x hx => ?_)
  subst hx
  refine G_if_eq 17 dr_cJ0_isLatin1_aae02_3 (by decide +kernel) (fun hc => absurd hc (by decide)) (fun _ => ?_)
  refine G_aload_n 0 dr_cJ0_isLatin1_aae02_6 rfl ?_
  refine G_kget dr_cJ0_isLatin1_aae02_7 wr_8_183 (fun _ _ _ h => (hbs657398 _ _ _ h).2.1) ?_
  refine G_if_ne 17 dr_cJ0_isLatin1_aae02_10 (by decide +kernel) (fun hc => absurd hc (by decide)) (fun _ => ?_)
  refine G_iconst 1 dr_cJ0_isLatin1_aae02_13 (by decide +kernel) ?_
  refine G_goto 18 dr_cJ0_isLatin1_aae02_14 (by decide +kernel) ?_
  exact G_zretA FieldType.boolean dr_cJ0_isLatin1_aae02_18 rfl rfl (Nat.le_of_ble_eq_true rfl) (Nat.le_of_ble_eq_true rfl) ⟨rfl, rfl, (Nat.le_of_ble_eq_true rfl), (Nat.le_of_ble_eq_true rfl)⟩
/- tr_RStringLatin1_charAt: result -/
def tr_RStringLatin1_charAt (bs : List Int32) (a1 : Int32) (o1 : Int32) : Prop := ∀ R : (Int32) → Prop,
  (∀ (x1 : Int32) (x2 : Int32) (x3 : Int32) (x4 : Int32), x1.toInt = (bs.length : Int) → tr_RString_checkIndex a1 x1 → x2 = bs.getD a1.toNatClampNeg 0 → x3 = x2 &&& (255 : Int32) → x4 = (x3.toUInt32 % 65536).toInt32 → R x4) →
  R o1
abbrev ky_657411_StringLatin1_charAt : gKey := (cJ1_charAt_3b067, 2, "java/lang/StringLatin1", (some FieldType.char), [], "charAt", fun _ _ => True)
def pp_657411_StringLatin1_charAt (D : va_G) (I : FieldType → ClassId) (P657405 : List Nat) (F657406 : Nat → va_E) (qs657407 : Nat) (bs657408 : List Int32) (p657409 : Int32) : Option Value → va_W → Nat → Nat → Prop := fun r w dc ds => ∃ (o657422 : Int32), r = some (.int o657422) ∧ w = va_pl P657405 F657406 ∧ dc ≤ 0 ∧ ds ≤ 0 ∧ gB o657422 0 65535 ∧ tr_RStringLatin1_charAt bs657408 p657409 o657422
set_option maxRecDepth 100000 in
set_option maxHeartbeats 4000000 in
theorem cp_657411_StringLatin1_charAt (l : Launch) (hl0 : l.stackTraces = false) (D : va_G) (I : FieldType → ClassId) (P657405 : List Nat) (F657406 : Nat → va_E) (qs657407 : Nat) (bs657408 : List Int32) (p657409 : Int32) (hbs657408 : ∀ A s H, (gV D I).2.2.2.1 A s H → va_T .byte qs657407 bs657408.length (fun j => .int (bs657408.getD j 0)) A s H) (nbs657408 : (bs657408.length : Int) ≤ 65535) (lbs657408 : gLB bs657408) (bp657409 : gB p657409 0 16777215) (x657410 : p657409.toInt < (bs657408.length : Int)) : CtA (gV D I) l yJ1_charAt_3b067 cJ1_charAt_3b067 2 (some FieldType.char) 2 43 0 0 [.ref qs657407, .int p657409] (va_pl P657405 F657406) (pp_657411_StringLatin1_charAt D I P657405 F657406 qs657407 bs657408 p657409) gNA := by
  refine CtA_ofF hl0 (by decide +kernel) (Nat.le_of_ble_eq_true rfl) ?_
  refine G_iload_n 1 dr_cJ1_charAt_3b067_0 rfl ?_
  refine G_aload_n 0 dr_cJ1_charAt_3b067_1 rfl ?_
  refine G_klen dr_cJ1_charAt_3b067_2 hbs657408 (G_nam fun z657412 hz657412 => ?_)
  have ez657412 : z657412.toInt = (bs657408.length : Int) := gI_ofN hz657412 nbs657408
  have bz657412 : gB z657412 0 65535 := ⟨by omega, by omega⟩
  refine Gw_callS (As := [.int p657409, .int z657412]) (gV_ok D I) (cp_655718_String_checkIndex l hl0 D I P657405 F657406 p657409 z657412 (gB_w bp657409 (by decide) (by decide)) (gB_w bz657412 (by decide) (by decide)) (by omega)) dr_cJ1_charAt_3b067_3 ⟨wr_3_78, wr_1_21, wr_3_80, by decide, rfl, (Nat.le_of_ble_eq_true rfl), (Nat.le_of_ble_eq_true rfl)⟩ wr_3_79 (show 0 + 0 ≤ 0 by first | omega | decide) (show 0 + 0 ≤ 0 by first | omega | decide) (Nat.le_of_ble_eq_true rfl) (fun r657416 w657417 dc657413 ds657414 hp657415 => ?_) (fun _ _ _ _ _ z => z.elim)
  obtain ⟨rfl, rfl, hdc, hds, ht657418⟩ := hp657415
  change G _ _ _ _ _ _ _ _ _ _ _
  refine G_widen (cs' := 0) (sl' := 0) (by omega) (by omega) ?_
  refine G_aload_n 0 dr_cJ1_charAt_3b067_6 rfl ?_
  refine G_iload_n 1 dr_cJ1_charAt_3b067_7 rfl ?_
  refine G_kbald (f := fun j => bs657408.getD j 0) dr_cJ1_charAt_3b067_8 hbs657408 (gB_inr (by omega) (by omega)) (G_nam fun z657419 hz657419 => ?_)
  have bz657419 : gB z657419 (-2147483648) 2147483647 := gB_any z657419
  refine G_sipush 255 dr_cJ1_charAt_3b067_9 (by decide +kernel) ?_
  refine G_iand dr_cJ1_charAt_3b067_12 (G_nam fun z657420 hz657420 => ?_)
  have bz657420 : gB z657420 0 255 := gB_and hz657420 (gBl (show Int32.toInt 255 = 255 by decide)) (by decide)
  refine G_i2c dr_cJ1_charAt_3b067_13 (G_nam fun z657421 hz657421 => ?_)
  have bz657421 : gB z657421 0 65535 := gB_i2c hz657421
  exact G_zretA FieldType.char dr_cJ1_charAt_3b067_14 rfl (gN_char bz657421) (Nat.le_of_ble_eq_true rfl) (Nat.le_of_ble_eq_true rfl) ⟨z657421, rfl, rfl, (Nat.le_of_ble_eq_true rfl), (Nat.le_of_ble_eq_true rfl), bz657421, (fun R c1 => c1 z657412 z657419 z657420 z657421 ez657412 ht657418 hz657419 hz657420 hz657421)⟩
/- tr_RString_charAt: result -/
def tr_RString_charAt (bs : List Int32) (a1 : Int32) (o1 : Int32) : Prop := ∀ R : (Int32) → Prop,
  (∀ (x1 : Int32), gB x1 0 65535 → tr_RStringLatin1_charAt bs a1 x1 → R x1) →
  R o1
abbrev ky_657393_String_charAt : gKey := (cJ0_charAt_5068e, 2, "java/lang/String", (some FieldType.char), [], "charAt", fun _ _ => True)
def pp_657393_String_charAt (D : va_G) (I : FieldType → ClassId) (P657386 : List Nat) (F657387 : Nat → va_E) (qs657388 : Nat) (qb657389 : Nat) (bs657390 : List Int32) (p657391 : Int32) : Option Value → va_W → Nat → Nat → Prop := fun r w dc ds => ∃ (o657430 : Int32), r = some (.int o657430) ∧ w = va_pl P657386 F657387 ∧ dc ≤ 0 ∧ ds ≤ 0 ∧ gB o657430 0 65535 ∧ tr_RString_charAt bs657390 p657391 o657430
set_option maxRecDepth 100000 in
set_option maxHeartbeats 4000000 in
theorem cp_657393_String_charAt (l : Launch) (hl0 : l.stackTraces = false) (D : va_G) (I : FieldType → ClassId) (P657386 : List Nat) (F657387 : Nat → va_E) (qs657388 : Nat) (qb657389 : Nat) (bs657390 : List Int32) (p657391 : Int32) (hbs657390 : ∀ A s H, (gV D I).2.2.2.1 A s H → gSC qs657388 qb657389 bs657390 A s H) (nbs657390 : (bs657390.length : Int) ≤ 65535) (lbs657390 : gLB bs657390) (bp657391 : gB p657391 0 65535) (x657392 : p657391.toInt < (bs657390.length : Int)) : CtA (gV D I) l yJ0_charAt_5068e cJ0_charAt_5068e 2 (some FieldType.char) 3 64 0 0 [.ref qs657388, .int p657391] (va_pl P657386 F657387) (pp_657393_String_charAt D I P657386 F657387 qs657388 qb657389 bs657390 p657391) gNA := by
  refine CtA_ofF hl0 (by decide +kernel) (Nat.le_of_ble_eq_true rfl) ?_
  refine G_aload_n 0 dr_cJ0_charAt_5068e_0 rfl ?_
  refine Gw_callVk (As := []) (gV_ok D I) (cp_657399_String_isLatin1 l hl0 D I P657386 F657387 qs657388 qb657389 bs657390 hbs657390 nbs657390 lbs657390) dr_cJ0_charAt_5068e_1 ⟨wr_3_71, wr_1_21, wr_3_74, by decide, rfl, (Nat.le_of_ble_eq_true rfl), (Nat.le_of_ble_eq_true rfl)⟩ wr_3_72 wr_3_73 (fun _ _ _ h => (hbs657390 _ _ _ h).1) (show 0 + 0 ≤ 0 by first | omega | decide) (show 0 + 0 ≤ 0 by first | omega | decide) (Nat.le_of_ble_eq_true rfl) (fun r657403 w657404 dc657400 ds657401 hp657402 => ?_) (fun _ _ _ _ _ z => z.elim)
  obtain ⟨rfl, rfl, hdc, hds⟩ := hp657402
  change G _ _ _ _ _ _ _ (.int 1 :: _) _ _ _
  refine G_widen (cs' := 0) (sl' := 0) (by omega) (by omega) ?_
  refine G_if_eq 16 dr_cJ0_charAt_5068e_4 (by decide +kernel) (fun hc => absurd hc (by decide)) (fun _ => ?_)
  refine G_aload_n 0 dr_cJ0_charAt_5068e_7 rfl ?_
  refine G_kget dr_cJ0_charAt_5068e_8 wr_8_182 (fun _ _ _ h => (hbs657390 _ _ _ h).2.2.1) ?_
  refine G_iload_n 1 dr_cJ0_charAt_5068e_11 rfl ?_
  refine Gw_callS (As := [.ref qb657389, .int p657391]) (gV_ok D I) (cp_657411_StringLatin1_charAt l hl0 D I P657386 F657387 qb657389 bs657390 p657391 (fun _ _ _ h => (hbs657390 _ _ _ h).2.2.2) (by omega) lbs657390 (gB_w bp657391 (by decide) (by decide)) (by omega)) dr_cJ0_charAt_5068e_12 ⟨wr_3_75, wr_1_28, wr_3_77, by decide, rfl, (Nat.le_of_ble_eq_true rfl), (Nat.le_of_ble_eq_true rfl)⟩ wr_3_76 (show 0 + 0 ≤ 0 by first | omega | decide) (show 0 + 0 ≤ 0 by first | omega | decide) (Nat.le_of_ble_eq_true rfl) (fun r657426 w657427 dc657423 ds657424 hp657425 => ?_) (fun _ _ _ _ _ z => z.elim)
  obtain ⟨o657428, rfl, rfl, hdc, hds, bo657428, ht657429⟩ := hp657425
  change G _ _ _ _ _ _ _ (.int o657428 :: _) _ _ _
  refine G_widen (cs' := 0) (sl' := 0) (by omega) (by omega) ?_
  exact G_zretA FieldType.char dr_cJ0_charAt_5068e_15 rfl (gN_char bo657428) (Nat.le_of_ble_eq_true rfl) (Nat.le_of_ble_eq_true rfl) ⟨o657428, rfl, rfl, (Nat.le_of_ble_eq_true rfl), (Nat.le_of_ble_eq_true rfl), bo657428, (fun R c1 => c1 o657428 bo657428 ht657429)⟩
/- tl_RStringLatin1_indexOf2_76: l10, l8; out: l8 -/
def tl_RStringLatin1_indexOf2_76 (c1 : Int32) (bs : List Int32) (a2_v : Nat → Int32) (s1 : Int32) (s2 : Int32) (k : Nat) (e1 : Int32) : Prop := ∀ R : (Int32) → (Int32) → Nat → (Int32) → Prop,
  (∀ (l10_2 : Int32) (l8_2 : Int32), gB l10_2 1 16777217 → gB l8_2 (-2147483645) 33554431 → c1.toInt ≤ l8_2.toInt → R l10_2 l8_2 103 l8_2) →
  (∀ (l10_2 : Int32) (l8_2 : Int32) (x1 : Int32) (x2 : Int32), gB l10_2 1 16777217 → gB l8_2 (-2147483645) 33554431 → l8_2.toInt < c1.toInt → x1 = bs.getD l8_2.toNatClampNeg 0 → x2 = a2_v l10_2.toNatClampNeg → gB x2 (-128) 127 → x1.toInt ≠ x2.toInt → R l10_2 l8_2 103 l8_2) →
  (∀ (l10_2 : Int32) (l8_2 : Int32) (x1 : Int32) (x2 : Int32) (x3 : Int32) (x4 : Int32) (k : Nat) (e1 : Int32), gB l10_2 1 16777217 → gB l8_2 (-2147483645) 33554431 → l8_2.toInt < c1.toInt → x1 = bs.getD l8_2.toNatClampNeg 0 → x2 = a2_v l10_2.toNatClampNeg → gB x2 (-128) 127 → x1.toInt = x2.toInt → x3.toInt = l8_2.toInt + 1 → x4.toInt = l10_2.toInt + 1 → R x4 x3 k e1 → R l10_2 l8_2 k e1) →
  R s1 s2 k e1
/- tl_RStringLatin1_indexOf2_76_2: l10, l8; out: l8 -/
def tl_RStringLatin1_indexOf2_76_2 (c1 : Int32) (bs : List Int32) (a2_v : Nat → Int32) (s1 : Int32) (s2 : Int32) (k : Nat) (e1 : Int32) : Prop := ∀ R : (Int32) → (Int32) → Nat → (Int32) → Prop,
  (∀ (l10_2 : Int32) (l8_2 : Int32), gB l10_2 1 16777217 → gB l8_2 (-16777214) 33554431 → c1.toInt ≤ l8_2.toInt → R l10_2 l8_2 103 l8_2) →
  (∀ (l10_2 : Int32) (l8_2 : Int32) (x1 : Int32) (x2 : Int32), gB l10_2 1 16777217 → gB l8_2 (-16777214) 33554431 → l8_2.toInt < c1.toInt → x1 = bs.getD l8_2.toNatClampNeg 0 → x2 = a2_v l10_2.toNatClampNeg → gB x2 (-128) 127 → x1.toInt ≠ x2.toInt → R l10_2 l8_2 103 l8_2) →
  (∀ (l10_2 : Int32) (l8_2 : Int32) (x1 : Int32) (x2 : Int32) (x3 : Int32) (x4 : Int32) (k : Nat) (e1 : Int32), gB l10_2 1 16777217 → gB l8_2 (-16777214) 33554431 → l8_2.toInt < c1.toInt → x1 = bs.getD l8_2.toNatClampNeg 0 → x2 = a2_v l10_2.toNatClampNeg → gB x2 (-128) 127 → x1.toInt = x2.toInt → x3.toInt = l8_2.toInt + 1 → x4.toInt = l10_2.toInt + 1 → R x4 x3 k e1 → R l10_2 l8_2 k e1) →
  R s1 s2 k e1
/- tl_RStringLatin1_indexOf2_76_3: l10, l8; out: l8 -/
def tl_RStringLatin1_indexOf2_76_3 (c1 : Int32) (bs : List Int32) (a2_v : Nat → Int32) (s1 : Int32) (s2 : Int32) (k : Nat) (e1 : Int32) : Prop := ∀ R : (Int32) → (Int32) → Nat → (Int32) → Prop,
  (∀ (l10_2 : Int32) (l8_2 : Int32), gB l10_2 1 16777217 → gB l8_2 (-2147483644) 33554431 → c1.toInt ≤ l8_2.toInt → R l10_2 l8_2 103 l8_2) →
  (∀ (l10_2 : Int32) (l8_2 : Int32) (x1 : Int32) (x2 : Int32), gB l10_2 1 16777217 → gB l8_2 (-2147483644) 33554431 → l8_2.toInt < c1.toInt → x1 = bs.getD l8_2.toNatClampNeg 0 → x2 = a2_v l10_2.toNatClampNeg → gB x2 (-128) 127 → x1.toInt ≠ x2.toInt → R l10_2 l8_2 103 l8_2) →
  (∀ (l10_2 : Int32) (l8_2 : Int32) (x1 : Int32) (x2 : Int32) (x3 : Int32) (x4 : Int32) (k : Nat) (e1 : Int32), gB l10_2 1 16777217 → gB l8_2 (-2147483644) 33554431 → l8_2.toInt < c1.toInt → x1 = bs.getD l8_2.toNatClampNeg 0 → x2 = a2_v l10_2.toNatClampNeg → gB x2 (-128) 127 → x1.toInt = x2.toInt → x3.toInt = l8_2.toInt + 1 → x4.toInt = l10_2.toInt + 1 → R x4 x3 k e1 → R l10_2 l8_2 k e1) →
  R s1 s2 k e1
/- tl_RStringLatin1_indexOf2_30: l7; out: l7 -/
def tl_RStringLatin1_indexOf2_30 (c1 : Int32) (bs : List Int32) (c2 : Int32) (s1 : Int32) (k : Nat) (e1 : Int32) : Prop := ∀ R : (Int32) → Nat → (Int32) → Prop,
  (∀ (l7_2 : Int32) (x1 : Int32), gB l7_2 (-2147483646) 16777215 → x1.toInt = l7_2.toInt + 1 → c1.toInt < x1.toInt → R l7_2 52 x1) →
  (∀ (l7_2 : Int32) (x1 : Int32) (x2 : Int32), gB l7_2 (-2147483646) 16777215 → x1.toInt = l7_2.toInt + 1 → x1.toInt ≤ c1.toInt → x2 = bs.getD x1.toNatClampNeg 0 → x2.toInt = c2.toInt → R l7_2 52 x1) →
  (∀ (l7_2 : Int32) (x1 : Int32) (x2 : Int32) (k : Nat) (e1 : Int32), gB l7_2 (-2147483646) 16777215 → x1.toInt = l7_2.toInt + 1 → x1.toInt ≤ c1.toInt → x2 = bs.getD x1.toNatClampNeg 0 → x2.toInt ≠ c2.toInt → R x1 k e1 → R l7_2 k e1) →
  R s1 k e1
/- tl_RStringLatin1_indexOf2_14: l7; out: l7 -/
def tl_RStringLatin1_indexOf2_14 (c1 : Int32) (bs : List Int32) (c2 : Int32) (a3 : Int32) (a2_v : Nat → Int32) (s1 : Int32) (k : Nat) (e1 : Int32) : Prop := ∀ R : (Int32) → Nat → (Int32) → Prop,
  (∀ (l7_1 : Int32), gB l7_1 (-2147483646) 16777217 → c1.toInt < l7_1.toInt → R l7_1 119 (0 : Int32)) →
  (∀ (l7_1 : Int32) (x1 : Int32) (x2 : Int32) (k : Nat) (e1 : Int32), gB l7_1 (-2147483646) 16777217 → l7_1.toInt ≤ c1.toInt → x1 = bs.getD l7_1.toNatClampNeg 0 → x1.toInt = c2.toInt → c1.toInt < l7_1.toInt → x2.toInt = l7_1.toInt + 1 → R x2 k e1 → R l7_1 k e1) →
  (∀ (l7_1 : Int32) (x1 : Int32) (x2 : Int32) (x3 : Int32) (x4 : Int32) (x5 : Int32) (x6 : Int32) (k : Nat) (e1 : Int32), gB l7_1 (-2147483646) 16777217 → l7_1.toInt ≤ c1.toInt → x1 = bs.getD l7_1.toNatClampNeg 0 → x1.toInt = c2.toInt → l7_1.toInt ≤ c1.toInt → x2.toInt = l7_1.toInt + 1 → x3.toInt = x2.toInt + a3.toInt → x4.toInt = x3.toInt - 1 → tl_RStringLatin1_indexOf2_76 x4 bs a2_v (1 : Int32) x2 103 x5 → x5.toInt ≠ x4.toInt → x6.toInt = l7_1.toInt + 1 → R x6 k e1 → R l7_1 k e1) →
  (∀ (l7_1 : Int32) (x1 : Int32) (x2 : Int32) (x3 : Int32) (x4 : Int32) (x5 : Int32), gB l7_1 (-2147483646) 16777217 → l7_1.toInt ≤ c1.toInt → x1 = bs.getD l7_1.toNatClampNeg 0 → x1.toInt = c2.toInt → l7_1.toInt ≤ c1.toInt → x2.toInt = l7_1.toInt + 1 → x3.toInt = x2.toInt + a3.toInt → x4.toInt = x3.toInt - 1 → tl_RStringLatin1_indexOf2_76 x4 bs a2_v (1 : Int32) x2 103 x5 → x5.toInt = x4.toInt → R l7_1 110 l7_1) →
  (∀ (l7_1 : Int32) (x1 : Int32) (x2 : Int32) (x3 : Int32) (k : Nat) (e1 : Int32), gB l7_1 (-2147483646) 16777217 → l7_1.toInt ≤ c1.toInt → x1 = bs.getD l7_1.toNatClampNeg 0 → x1.toInt ≠ c2.toInt → tl_RStringLatin1_indexOf2_30 c1 bs c2 l7_1 52 x2 → c1.toInt < x2.toInt → x3.toInt = x2.toInt + 1 → R x3 k e1 → R l7_1 k e1) →
  (∀ (l7_1 : Int32) (x1 : Int32) (x2 : Int32) (x3 : Int32) (x4 : Int32) (x5 : Int32) (x6 : Int32) (x7 : Int32) (k : Nat) (e1 : Int32), gB l7_1 (-2147483646) 16777217 → l7_1.toInt ≤ c1.toInt → x1 = bs.getD l7_1.toNatClampNeg 0 → x1.toInt ≠ c2.toInt → tl_RStringLatin1_indexOf2_30 c1 bs c2 l7_1 52 x2 → x2.toInt ≤ c1.toInt → x3.toInt = x2.toInt + 1 → x4.toInt = x3.toInt + a3.toInt → x5.toInt = x4.toInt - 1 → tl_RStringLatin1_indexOf2_76_2 x5 bs a2_v (1 : Int32) x3 103 x6 → x6.toInt ≠ x5.toInt → x7.toInt = x2.toInt + 1 → R x7 k e1 → R l7_1 k e1) →
  (∀ (l7_1 : Int32) (x1 : Int32) (x2 : Int32) (x3 : Int32) (x4 : Int32) (x5 : Int32) (x6 : Int32), gB l7_1 (-2147483646) 16777217 → l7_1.toInt ≤ c1.toInt → x1 = bs.getD l7_1.toNatClampNeg 0 → x1.toInt ≠ c2.toInt → tl_RStringLatin1_indexOf2_30 c1 bs c2 l7_1 52 x2 → x2.toInt ≤ c1.toInt → x3.toInt = x2.toInt + 1 → x4.toInt = x3.toInt + a3.toInt → x5.toInt = x4.toInt - 1 → tl_RStringLatin1_indexOf2_76_2 x5 bs a2_v (1 : Int32) x3 103 x6 → x6.toInt = x5.toInt → R l7_1 110 x2) →
  (∀ (l7_1 : Int32) (x1 : Int32) (x2 : Int32) (x3 : Int32) (x4 : Int32) (x5 : Int32) (x6 : Int32) (x7 : Int32) (k : Nat) (e1 : Int32), gB l7_1 (-2147483646) 16777217 → l7_1.toInt ≤ c1.toInt → x1 = bs.getD l7_1.toNatClampNeg 0 → x1.toInt ≠ c2.toInt → tl_RStringLatin1_indexOf2_30 c1 bs c2 l7_1 52 x2 → x2.toInt ≤ c1.toInt → x3.toInt = x2.toInt + 1 → x4.toInt = x3.toInt + a3.toInt → x5.toInt = x4.toInt - 1 → tl_RStringLatin1_indexOf2_76_3 x5 bs a2_v (1 : Int32) x3 103 x6 → x6.toInt ≠ x5.toInt → x7.toInt = x2.toInt + 1 → R x7 k e1 → R l7_1 k e1) →
  (∀ (l7_1 : Int32) (x1 : Int32) (x2 : Int32) (x3 : Int32) (x4 : Int32) (x5 : Int32) (x6 : Int32), gB l7_1 (-2147483646) 16777217 → l7_1.toInt ≤ c1.toInt → x1 = bs.getD l7_1.toNatClampNeg 0 → x1.toInt ≠ c2.toInt → tl_RStringLatin1_indexOf2_30 c1 bs c2 l7_1 52 x2 → x2.toInt ≤ c1.toInt → x3.toInt = x2.toInt + 1 → x4.toInt = x3.toInt + a3.toInt → x5.toInt = x4.toInt - 1 → tl_RStringLatin1_indexOf2_76_3 x5 bs a2_v (1 : Int32) x3 103 x6 → x6.toInt = x5.toInt → R l7_1 110 x2) →
  R s1 k e1
/- tr_RStringLatin1_indexOf2: result -/
def tr_RStringLatin1_indexOf2 (bs : List Int32) (a1 : Int32) (a3 : Int32) (a2_v : Nat → Int32) (o1 : Int32) : Prop := ∀ R : (Int32) → Prop,
  (∀ (x1 : Int32) (x2 : Int32), x1 = a2_v (0 : Int32).toNatClampNeg → gB x1 (-128) 127 → x2.toInt = a1.toInt - a3.toInt → tl_RStringLatin1_indexOf2_14 x2 bs x1 a3 a2_v (0 : Int32) 119 (0 : Int32) → R (-1 : Int32)) →
  (∀ (x1 : Int32) (x2 : Int32) (x3 : Int32), x1 = a2_v (0 : Int32).toNatClampNeg → gB x1 (-128) 127 → x2.toInt = a1.toInt - a3.toInt → tl_RStringLatin1_indexOf2_14 x2 bs x1 a3 a2_v (0 : Int32) 110 x3 → R x3) →
  R o1
abbrev ky_657491_StringLatin1_indexOf : gKey := (cJ1_indexOf_5af95, 11, "java/lang/StringLatin1", (some FieldType.int), [], "indexOf", fun _ _ => True)
def pp_657491_StringLatin1_indexOf (D : va_G) (I : FieldType → ClassId) (P657479 : List Nat) (F657480 : Nat → va_E) (q657481 : Nat) (qs657482 : Nat) (bs657483 : List Int32) (p657484 : Int32) (p657485 : Int32) (f657486 : Nat → Int32) (n657487 : Nat) : Option Value → va_W → Nat → Nat → Prop := fun r w dc ds => ∃ (o664491 : Int32), r = some (.int o664491) ∧ w = va_pl P657479 F657480 ∧ dc ≤ 0 ∧ ds ≤ 0 ∧ gB o664491 (-2147483646) 16777215 ∧ (o664491.toInt < 0 ∨ o664491.toInt + p657485.toInt ≤ p657484.toInt) ∧ ixP (fun j => bs657483.getD j 0) f657486 o664491 ∧ tr_RStringLatin1_indexOf2 bs657483 p657484 p657485 f657486 o664491
set_option maxRecDepth 100000 in
set_option maxHeartbeats 4000000 in
theorem cp_657491_StringLatin1_indexOf (l : Launch) (hl0 : l.stackTraces = false) (D : va_G) (I : FieldType → ClassId) (P657479 : List Nat) (F657480 : Nat → va_E) (q657481 : Nat) (qs657482 : Nat) (bs657483 : List Int32) (p657484 : Int32) (p657485 : Int32) (f657486 : Nat → Int32) (n657487 : Nat) (hmq657481 : q657481 ∈ P657479) (heq657481 : F657480 q657481 = .inl (I .byte, n657487, .inl f657486)) (hbs657483 : ∀ A s H, (gV D I).2.2.2.1 A s H → va_T .byte qs657482 bs657483.length (fun j => .int (bs657483.getD j 0)) A s H) (nbs657483 : (bs657483.length : Int) ≤ 65535) (lbs657483 : gLB bs657483) (bp657484 : gB p657484 0 16777216) (bp657485 : gB p657485 1 16777216) (bf657486 : gF f657486 (-128) 127) (x657488 : p657484.toInt = (bs657483.length : Int)) (x657489 : p657485.toInt = (n657487 : Int)) (x657490 : ((n657487 : Int) ≤ 16777216)) : CtA (gV D I) l yJ1_indexOf_5af95 cJ1_indexOf_5af95 11 (some FieldType.int) 0 0 0 0 [.ref qs657482, .int p657484, .ref q657481, .int p657485, .int 0] (va_pl P657479 F657480) (pp_657491_StringLatin1_indexOf D I P657479 F657480 q657481 qs657482 bs657483 p657484 p657485 f657486 n657487) gNA := by
  refine CtA_ofF hl0 (by decide +kernel) (Nat.le_of_ble_eq_true rfl) ?_
  refine G_aload_n 2 dr_cJ1_indexOf_5af95_0 rfl ?_
  refine G_iconst 0 dr_cJ1_indexOf_5af95_1 (by decide +kernel) ?_
  refine Gp_bald 1 hmq657481 heq657481 dr_cJ1_indexOf_5af95_2 rfl (gB_inr (x := 0) (show (0 : Int) ≤ Int32.toInt 0 by decide) (show Int32.toInt 0 < _ by rw [show Int32.toInt 0 = 0 by decide]; omega)) (G_nam fun z657492 hz657492 => ?_)
  have bz657492 : gB z657492 (-128) 127 := by rw [hz657492]; exact bf657486 _
  refine G_istore (L' := [(5, .int z657492), (0, .ref qs657482), (1, .int p657484), (2, .ref q657481), (3, .int p657485), (4, .int 0)]) dr_cJ1_indexOf_5af95_3 (Nat.le_of_ble_eq_true rfl) rfl ?_
  refine G_iload_n 2 dr_cJ1_indexOf_5af95_5 rfl ?_
  refine G_iload_n 4 dr_cJ1_indexOf_5af95_6 rfl ?_
  refine G_isub dr_cJ1_indexOf_5af95_7 (G_nam fun z657493 hz657493 => ?_)
  have ez657493 : z657493.toInt = p657484.toInt - p657485.toInt := by rw [gI_sub hz657493 bp657484 bp657485 (by decide) (by decide)]
  have bz657493 : gB z657493 (-16777216) 16777215 := gB_sub (gI_sub hz657493 bp657484 bp657485 (by decide) (by decide)) bp657484 bp657485 (by decide) (by decide)
  refine G_istore (L' := [(6, .int z657493), (5, .int z657492), (0, .ref qs657482), (1, .int p657484), (2, .ref q657481), (3, .int p657485), (4, .int 0)]) dr_cJ1_indexOf_5af95_8 (Nat.le_of_ble_eq_true rfl) rfl ?_
  refine G_iload 6 dr_cJ1_indexOf_5af95_10 rfl ?_
  refine G_istore (L' := [(7, .int 0), (6, .int z657493), (5, .int z657492), (0, .ref qs657482), (1, .int p657484), (2, .ref q657481), (3, .int p657485), (4, .int 0)]) dr_cJ1_indexOf_5af95_12 (Nat.le_of_ble_eq_true rfl) rfl ?_
  have hlp14_663404 : ∀ (n14_663404 : Nat) (g663403 : Int32), gB g663403 (-2147483646) 16777217 → 0 ≤ g663403.toInt → (∀ (k : Nat) (e1 : Int32), tl_RStringLatin1_indexOf2_14 z657493 bs657483 z657492 p657485 f657486 g663403 k e1 → tl_RStringLatin1_indexOf2_14 z657493 bs657483 z657492 p657485 f657486 (0 : Int32) k e1) → ((z657493.toInt : Int) + 2 - g663403.toInt).toNat < n14_663404 → G (gV D I) l (gRm 0 0 0 0) (gMA (gV D I) (pp_657491_StringLatin1_indexOf D I P657479 F657480 q657481 qs657482 bs657483 p657484 p657485 f657486 n657487) gNA 0 0) ky_657491_StringLatin1_indexOf 14 [(7, .int g663403), (6, .int z657493), (5, .int z657492), (0, .ref qs657482), (1, .int p657484), (2, .ref q657481), (3, .int p657485), (4, .int 0)] [] (va_pl P657479 F657480) 0 0 := by
    intro n14_663404
    induction n14_663404 with
    | zero => intro g663403 bg663403 x663404 kt14_663404 hm14_663404; exact absurd hm14_663404 (Nat.not_lt_zero _)
    | succ n14_663404 ih14_663404 =>
      intro g663403 bg663403 x663404 kt14_663404 hm14_663404
      refine G_iload 0 dr_cJ1_indexOf_5af95_14 rfl ?_
      refine G_iload 1 dr_cJ1_indexOf_5af95_16 rfl ?_
      refine G_icmp_gt 119 dr_cJ1_indexOf_5af95_18 (by decide +kernel) (fun hc663405 => ?_) (fun hc663405 => ?_)
      · have r663406 : z657493.toInt < g663403.toInt := gC_lt hc663405
        have bg663403' : gB g663403 (-16777215) 16777217 := ⟨by omega, by omega⟩
        have hx663407 : tl_RStringLatin1_indexOf2_14 z657493 bs657483 z657492 p657485 f657486 (0 : Int32) 119 (0 : Int32) := kt14_663404 119 (0 : Int32) (fun R c1 c2 c3 c4 c5 c6 c7 c8 c9 => c1 g663403 bg663403 r663406)
        refine G_iconst (-1) dr_cJ1_indexOf_5af95_119 (by decide +kernel) ?_
        exact G_iretA dr_cJ1_indexOf_5af95_120 rfl (Nat.le_of_ble_eq_true rfl) (Nat.le_of_ble_eq_true rfl) ⟨(-1), rfl, rfl, (Nat.le_of_ble_eq_true rfl), (Nat.le_of_ble_eq_true rfl), (gB_w (gBl (show Int32.toInt (-1) = (-1) by decide)) (by decide) (by decide)), (by have qa0 : Int32.toInt (-1) = (-1) := (by decide); have qa1 : Int32.toInt 0 = 0 := (by decide); omega), (ixP_n (by decide)), (fun R c1 c2 => c1 z657492 z657493 hz657492 bz657492 ez657493 hx663407)⟩
      · have r663408 : g663403.toInt ≤ z657493.toInt := gC_nlt hc663405
        have bg663403' : gB g663403 (-2147483646) 16777215 := ⟨by omega, by omega⟩
        refine G_aload_n 3 dr_cJ1_indexOf_5af95_21 rfl ?_
        refine G_iload 0 dr_cJ1_indexOf_5af95_22 rfl ?_
        refine G_kbald (f := fun j => bs657483.getD j 0) dr_cJ1_indexOf_5af95_24 hbs657483 (gB_inr (by omega) (by omega)) (G_nam fun z663409 hz663409 => ?_)
        have bz663409 : gB z663409 (-2147483648) 2147483647 := gB_any z663409
        refine G_iload 2 dr_cJ1_indexOf_5af95_25 rfl ?_
        refine G_icmp_eq 52 dr_cJ1_indexOf_5af95_27 (by decide +kernel) (fun hc663410 => ?_) (fun hc663410 => ?_)
        · have r663411 : z663409.toInt = z657492.toInt := gC_eq hc663410
          have bz663409' : gB z663409 (-128) 127 := ⟨by omega, by omega⟩
          refine G_iload 0 dr_cJ1_indexOf_5af95_52 rfl ?_
          refine G_iload 1 dr_cJ1_indexOf_5af95_54 rfl ?_
          refine G_icmp_gt 113 dr_cJ1_indexOf_5af95_56 (by decide +kernel) (fun hc663412 => ?_) (fun hc663412 => ?_)
          · have r663413 : z657493.toInt < g663403.toInt := gC_lt hc663412
            have bz657493' : gB z657493 (-16777216) 16777214 := ⟨by omega, by omega⟩
            have bg663403'' : gB g663403 (-16777215) 16777215 := ⟨by omega, by omega⟩
            obtain ⟨z663414, hz663414⟩ : ∃ z : Int32, z = g663403 + Int32.ofInt 1 := ⟨_, rfl⟩
            have ez663414 : z663414.toInt = g663403.toInt + 1 := gI_inc hz663414 (by decide) bg663403'' (by decide) (by decide)
            have bz663414 : gB z663414 (-16777214) 16777216 := ⟨by omega, by omega⟩
            refine G_iinc (L' := [(7, .int z663414), (6, .int z657493), (5, .int z657492), (0, .ref qs657482), (1, .int p657484), (2, .ref q657481), (3, .int p657485), (4, .int 0)]) z663414 0 dr_cJ1_indexOf_5af95_113 rfl hz663414.symm (Nat.le_of_ble_eq_true rfl) rfl ?_
            refine G_goto 14 dr_cJ1_indexOf_5af95_116 (by decide +kernel) ?_
            exact ih14_663404 z663414 (gB_w bz663414 (by decide) (by decide)) (by have qa0 : Int32.toInt 0 = 0 := (by decide); omega) (fun k e1 ht => kt14_663404 k e1 (fun R c1 c2 c3 c4 c5 c6 c7 c8 c9 => c2 g663403 z663409 z663414 k e1 bg663403 r663408 hz663409 r663411 r663413 ez663414 (ht R c1 c2 c3 c4 c5 c6 c7 c8 c9))) (by have qa0 : Int32.toInt 0 = 0 := (by decide); omega)
          · have r663415 : g663403.toInt ≤ z657493.toInt := gC_nlt hc663412
            refine G_iload 0 dr_cJ1_indexOf_5af95_59 rfl ?_
            refine G_iconst 1 dr_cJ1_indexOf_5af95_61 (by decide +kernel) ?_
            refine G_iadd dr_cJ1_indexOf_5af95_62 (G_nam fun z663416 hz663416 => ?_)
            have ez663416 : z663416.toInt = g663403.toInt + 1 := by rw [gI_add hz663416 bg663403' (gBl (show Int32.toInt 1 = 1 by decide)) (by decide) (by decide), show Int32.toInt 1 = 1 from by decide]
            have bz663416 : gB z663416 (-2147483645) 16777216 := gB_add (gI_add hz663416 bg663403' (gBl (show Int32.toInt 1 = 1 by decide)) (by decide) (by decide)) bg663403' (gBl (show Int32.toInt 1 = 1 by decide)) (by decide) (by decide)
            refine G_istore (L' := [(8, .int z663416), (7, .int g663403), (6, .int z657493), (5, .int z657492), (0, .ref qs657482), (1, .int p657484), (2, .ref q657481), (3, .int p657485), (4, .int 0)]) dr_cJ1_indexOf_5af95_63 (Nat.le_of_ble_eq_true rfl) rfl ?_
            refine G_iload 0 dr_cJ1_indexOf_5af95_65 rfl ?_
            refine G_iload_n 7 dr_cJ1_indexOf_5af95_67 rfl ?_
            refine G_iadd dr_cJ1_indexOf_5af95_68 (G_nam fun z663417 hz663417 => ?_)
            have ez663417 : z663417.toInt = z663416.toInt + p657485.toInt := by rw [gI_add hz663417 bz663416 bp657485 (by decide) (by decide)]
            have bz663417 : gB z663417 (-2147483644) 33554432 := gB_add (gI_add hz663417 bz663416 bp657485 (by decide) (by decide)) bz663416 bp657485 (by decide) (by decide)
            refine G_iconst 1 dr_cJ1_indexOf_5af95_69 (by decide +kernel) ?_
            refine G_isub dr_cJ1_indexOf_5af95_70 (G_nam fun z663418 hz663418 => ?_)
            have ez663418 : z663418.toInt = z663417.toInt - 1 := by rw [gI_sub hz663418 bz663417 (gBl (show Int32.toInt 1 = 1 by decide)) (by decide) (by decide), show Int32.toInt 1 = 1 from by decide]
            have bz663418 : gB z663418 (-2147483645) 33554431 := gB_sub (gI_sub hz663418 bz663417 (gBl (show Int32.toInt 1 = 1 by decide)) (by decide) (by decide)) bz663417 (gBl (show Int32.toInt 1 = 1 by decide)) (by decide) (by decide)
            refine G_istore (L' := [(9, .int z663418), (8, .int z663416), (7, .int g663403), (6, .int z657493), (5, .int z657492), (0, .ref qs657482), (1, .int p657484), (2, .ref q657481), (3, .int p657485), (4, .int 0)]) dr_cJ1_indexOf_5af95_71 (Nat.le_of_ble_eq_true rfl) rfl ?_
            refine G_iconst 1 dr_cJ1_indexOf_5af95_73 (by decide +kernel) ?_
            refine G_istore (L' := [(10, .int 1), (9, .int z663418), (8, .int z663416), (7, .int g663403), (6, .int z657493), (5, .int z657492), (0, .ref qs657482), (1, .int p657484), (2, .ref q657481), (3, .int p657485), (4, .int 0)]) dr_cJ1_indexOf_5af95_74 (Nat.le_of_ble_eq_true rfl) rfl ?_
            have hlp76_663541 : ∀ (n76_663541 : Nat) (g663536 : Int32) (g663537 : Int32), gB g663536 1 16777217 → gB g663537 (-2147483645) 33554431 → 0 ≤ g663537.toInt → g663536.toInt = g663537.toInt - g663403.toInt → 1 ≤ g663536.toInt → g663537.toInt ≤ z663418.toInt → (∀ (k : Nat) (e1 : Int32), tl_RStringLatin1_indexOf2_76 z663418 bs657483 f657486 g663536 g663537 k e1 → tl_RStringLatin1_indexOf2_76 z663418 bs657483 f657486 (1 : Int32) z663416 k e1) → ((z663418.toInt : Int) + 2 - g663537.toInt).toNat < n76_663541 → G (gV D I) l (gRm 0 0 0 0) (gMA (gV D I) (pp_657491_StringLatin1_indexOf D I P657479 F657480 q657481 qs657482 bs657483 p657484 p657485 f657486 n657487) gNA 0 0) ky_657491_StringLatin1_indexOf 76 [(10, .int g663536), (9, .int z663418), (8, .int g663537), (7, .int g663403), (6, .int z657493), (5, .int z657492), (0, .ref qs657482), (1, .int p657484), (2, .ref q657481), (3, .int p657485), (4, .int 0)] [] (va_pl P657479 F657480) 0 0 := by
              intro n76_663541
              induction n76_663541 with
              | zero => intro g663536 g663537 bg663536 bg663537 x663538 x663539 x663540 x663541 kt76_663541 hm76_663541; exact absurd hm76_663541 (Nat.not_lt_zero _)
              | succ n76_663541 ih76_663541 =>
                intro g663536 g663537 bg663536 bg663537 x663538 x663539 x663540 x663541 kt76_663541 hm76_663541
                refine G_iload 2 dr_cJ1_indexOf_5af95_76 rfl ?_
                refine G_iload 1 dr_cJ1_indexOf_5af95_78 rfl ?_
                refine G_icmp_ge 103 dr_cJ1_indexOf_5af95_80 (by decide +kernel) (fun hc663542 => ?_) (fun hc663542 => ?_)
                · have r663543 : z663418.toInt ≤ g663537.toInt := gC_le hc663542
                  have hx663544 : tl_RStringLatin1_indexOf2_76 z663418 bs657483 f657486 (1 : Int32) z663416 103 g663537 := kt76_663541 103 g663537 (fun R c1 c2 c3 => c1 g663536 g663537 bg663536 bg663537 r663543)
                  refine G_iload 2 dr_cJ1_indexOf_5af95_103 rfl ?_
                  refine G_iload 1 dr_cJ1_indexOf_5af95_105 rfl ?_
                  refine G_icmp_ne 113 dr_cJ1_indexOf_5af95_107 (by decide +kernel) (fun hc663545 => ?_) (fun hc663545 => ?_)
                  · have r663546 : g663537.toInt ≠ z663418.toInt := gC_ne hc663545
                    obtain ⟨z663547, hz663547⟩ : ∃ z : Int32, z = g663403 + Int32.ofInt 1 := ⟨_, rfl⟩
                    have ez663547 : z663547.toInt = g663403.toInt + 1 := gI_inc hz663547 (by decide) bg663403' (by decide) (by decide)
                    have bz663547 : gB z663547 (-2147483645) 16777216 := ⟨by omega, by omega⟩
                    refine G_iinc (L' := [(7, .int z663547), (10, .int g663536), (9, .int z663418), (8, .int g663537), (6, .int z657493), (5, .int z657492), (0, .ref qs657482), (1, .int p657484), (2, .ref q657481), (3, .int p657485), (4, .int 0)]) z663547 3 dr_cJ1_indexOf_5af95_113 rfl hz663547.symm (Nat.le_of_ble_eq_true rfl) rfl ?_
                    refine G_goto 14 dr_cJ1_indexOf_5af95_116 (by decide +kernel) ?_
                    refine G_lv (L' := [(7, .int z663547), (6, .int z657493), (5, .int z657492), (0, .ref qs657482), (1, .int p657484), (2, .ref q657481), (3, .int p657485), (4, .int 0)]) [0, 4, 5, 6, 7, 8, 9, 10] rfl ?_
                    exact ih14_663404 z663547 (gB_w bz663547 (by decide) (by decide)) (by have qa0 : Int32.toInt 0 = 0 := (by decide); omega) (fun k e1 ht => kt14_663404 k e1 (fun R c1 c2 c3 c4 c5 c6 c7 c8 c9 => c3 g663403 z663409 z663416 z663417 z663418 g663537 z663547 k e1 bg663403 r663408 hz663409 r663411 r663415 ez663416 ez663417 ez663418 hx663544 r663546 ez663547 (ht R c1 c2 c3 c4 c5 c6 c7 c8 c9))) (by have qa0 : Int32.toInt 0 = 0 := (by decide); omega)
                  · have r663548 : g663537.toInt = z663418.toInt := gC_eq hc663545
                    have hx663549 : tl_RStringLatin1_indexOf2_14 z657493 bs657483 z657492 p657485 f657486 (0 : Int32) 110 g663403 := kt14_663404 110 g663403 (fun R c1 c2 c3 c4 c5 c6 c7 c8 c9 => c4 g663403 z663409 z663416 z663417 z663418 g663537 bg663403 r663408 hz663409 r663411 r663415 ez663416 ez663417 ez663418 hx663544 r663548)
                    refine G_iload 3 dr_cJ1_indexOf_5af95_110 rfl ?_
                    exact G_iretA dr_cJ1_indexOf_5af95_112 rfl (Nat.le_of_ble_eq_true rfl) (Nat.le_of_ble_eq_true rfl) ⟨g663403, rfl, rfl, (Nat.le_of_ble_eq_true rfl), (Nat.le_of_ble_eq_true rfl), bg663403', (by have qa0 : Int32.toInt 0 = 0 := (by decide); omega), (by first | exact ixP_of (by assumption) (by assumption) (by omega) | exact absurd (show False by omega) not_false), (fun R c1 c2 => c2 z657492 z657493 g663403 hz657492 bz657492 ez657493 hx663549)⟩
                · have r663550 : g663537.toInt < z663418.toInt := gC_nle hc663542
                  have bg663537' : gB g663537 (-2147483645) 33554430 := ⟨by omega, by omega⟩
                  have bz663418' : gB z663418 (-2147483644) 33554431 := ⟨by omega, by omega⟩
                  refine G_aload_n 6 dr_cJ1_indexOf_5af95_83 rfl ?_
                  refine G_iload 2 dr_cJ1_indexOf_5af95_84 rfl ?_
                  refine G_kbald (f := fun j => bs657483.getD j 0) dr_cJ1_indexOf_5af95_86 hbs657483 (gB_inr (by omega) (by omega)) (G_nam fun z663551 hz663551 => ?_)
                  have bz663551 : gB z663551 (-2147483648) 2147483647 := gB_any z663551
                  refine G_aload_n 8 dr_cJ1_indexOf_5af95_87 rfl ?_
                  refine G_iload 0 dr_cJ1_indexOf_5af95_88 rfl ?_
                  refine Gp_bald 1 hmq657481 heq657481 dr_cJ1_indexOf_5af95_90 rfl (gB_inr (by omega) (by omega)) (G_nam fun z663552 hz663552 => ?_)
                  have bz663552 : gB z663552 (-128) 127 := by rw [hz663552]; exact bf657486 _
                  refine G_icmp_ne 103 dr_cJ1_indexOf_5af95_91 (by decide +kernel) (fun hc663553 => ?_) (fun hc663553 => ?_)
                  · have r663554 : z663551.toInt ≠ z663552.toInt := gC_ne hc663553
                    have hx663555 : tl_RStringLatin1_indexOf2_76 z663418 bs657483 f657486 (1 : Int32) z663416 103 g663537 := kt76_663541 103 g663537 (fun R c1 c2 c3 => c2 g663536 g663537 z663551 z663552 bg663536 bg663537 r663550 hz663551 hz663552 bz663552 r663554)
                    refine G_iload 2 dr_cJ1_indexOf_5af95_103 rfl ?_
                    refine G_iload 1 dr_cJ1_indexOf_5af95_105 rfl ?_
                    refine G_icmp_ne 113 dr_cJ1_indexOf_5af95_107 (by decide +kernel) (fun hc663556 => ?_) (fun hc663556 => ?_)
                    · have r663557 : g663537.toInt ≠ z663418.toInt := gC_ne hc663556
                      obtain ⟨z663558, hz663558⟩ : ∃ z : Int32, z = g663403 + Int32.ofInt 1 := ⟨_, rfl⟩
                      have ez663558 : z663558.toInt = g663403.toInt + 1 := gI_inc hz663558 (by decide) bg663403' (by decide) (by decide)
                      have bz663558 : gB z663558 (-2147483645) 16777216 := ⟨by omega, by omega⟩
                      refine G_iinc (L' := [(7, .int z663558), (10, .int g663536), (9, .int z663418), (8, .int g663537), (6, .int z657493), (5, .int z657492), (0, .ref qs657482), (1, .int p657484), (2, .ref q657481), (3, .int p657485), (4, .int 0)]) z663558 3 dr_cJ1_indexOf_5af95_113 rfl hz663558.symm (Nat.le_of_ble_eq_true rfl) rfl ?_
                      refine G_goto 14 dr_cJ1_indexOf_5af95_116 (by decide +kernel) ?_
                      refine G_lv (L' := [(7, .int z663558), (6, .int z657493), (5, .int z657492), (0, .ref qs657482), (1, .int p657484), (2, .ref q657481), (3, .int p657485), (4, .int 0)]) [0, 4, 5, 6, 7, 8, 9, 10] rfl ?_
                      exact ih14_663404 z663558 (gB_w bz663558 (by decide) (by decide)) (by have qa0 : Int32.toInt 0 = 0 := (by decide); omega) (fun k e1 ht => kt14_663404 k e1 (fun R c1 c2 c3 c4 c5 c6 c7 c8 c9 => c3 g663403 z663409 z663416 z663417 z663418 g663537 z663558 k e1 bg663403 r663408 hz663409 r663411 r663415 ez663416 ez663417 ez663418 hx663555 r663557 ez663558 (ht R c1 c2 c3 c4 c5 c6 c7 c8 c9))) (by have qa0 : Int32.toInt 0 = 0 := (by decide); omega)
                    · have r663559 : g663537.toInt = z663418.toInt := gC_eq hc663556
                      have bg663537'' : gB g663537 (-2147483644) 33554430 := ⟨by omega, by omega⟩
                      have bz663418'' : gB z663418 (-2147483644) 33554430 := ⟨by omega, by omega⟩
                      have hx663560 : tl_RStringLatin1_indexOf2_14 z657493 bs657483 z657492 p657485 f657486 (0 : Int32) 110 g663403 := kt14_663404 110 g663403 (fun R c1 c2 c3 c4 c5 c6 c7 c8 c9 => c4 g663403 z663409 z663416 z663417 z663418 g663537 bg663403 r663408 hz663409 r663411 r663415 ez663416 ez663417 ez663418 hx663555 r663559)
                      refine G_iload 3 dr_cJ1_indexOf_5af95_110 rfl ?_
                      exact G_iretA dr_cJ1_indexOf_5af95_112 rfl (Nat.le_of_ble_eq_true rfl) (Nat.le_of_ble_eq_true rfl) ⟨g663403, rfl, rfl, (Nat.le_of_ble_eq_true rfl), (Nat.le_of_ble_eq_true rfl), bg663403', (by have qa0 : Int32.toInt 0 = 0 := (by decide); omega), (by first | exact ixP_of (by assumption) (by assumption) (by omega) | exact absurd (show False by omega) not_false), (fun R c1 c2 => c2 z657492 z657493 g663403 hz657492 bz657492 ez657493 hx663560)⟩
                  · have r663561 : z663551.toInt = z663552.toInt := gC_eq hc663553
                    have bz663551' : gB z663551 (-128) 127 := ⟨by omega, by omega⟩
                    obtain ⟨z663562, hz663562⟩ : ∃ z : Int32, z = g663537 + Int32.ofInt 1 := ⟨_, rfl⟩
                    have ez663562 : z663562.toInt = g663537.toInt + 1 := gI_inc hz663562 (by decide) bg663537' (by decide) (by decide)
                    have bz663562 : gB z663562 (-2147483644) 33554431 := ⟨by omega, by omega⟩
                    refine G_iinc (L' := [(8, .int z663562), (10, .int g663536), (9, .int z663418), (7, .int g663403), (6, .int z657493), (5, .int z657492), (0, .ref qs657482), (1, .int p657484), (2, .ref q657481), (3, .int p657485), (4, .int 0)]) z663562 2 dr_cJ1_indexOf_5af95_94 rfl hz663562.symm (Nat.le_of_ble_eq_true rfl) rfl ?_
                    have bg663536' : gB g663536 1 16777216 := ⟨by omega, by omega⟩
                    obtain ⟨z663563, hz663563⟩ : ∃ z : Int32, z = g663536 + Int32.ofInt 1 := ⟨_, rfl⟩
                    have ez663563 : z663563.toInt = g663536.toInt + 1 := gI_inc hz663563 (by decide) bg663536' (by decide) (by decide)
                    have bz663563 : gB z663563 2 16777217 := ⟨by omega, by omega⟩
                    refine G_iinc (L' := [(10, .int z663563), (8, .int z663562), (9, .int z663418), (7, .int g663403), (6, .int z657493), (5, .int z657492), (0, .ref qs657482), (1, .int p657484), (2, .ref q657481), (3, .int p657485), (4, .int 0)]) z663563 1 dr_cJ1_indexOf_5af95_97 rfl hz663563.symm (Nat.le_of_ble_eq_true rfl) rfl ?_
                    refine G_goto 76 dr_cJ1_indexOf_5af95_100 (by decide +kernel) ?_
                    refine G_lv (L' := [(10, .int z663563), (9, .int z663418), (8, .int z663562), (7, .int g663403), (6, .int z657493), (5, .int z657492), (0, .ref qs657482), (1, .int p657484), (2, .ref q657481), (3, .int p657485), (4, .int 0)]) [0, 2, 1, 3, 4, 5, 6, 7, 8, 9, 10] rfl ?_
                    exact ih76_663541 z663563 z663562 (gB_w bz663563 (by decide) (by decide)) (gB_w bz663562 (by decide) (by decide)) (by have qa0 : Int32.toInt 0 = 0 := (by decide); omega) (by have qa0 : Int32.toInt 0 = 0 := (by decide); omega) (by have qa0 : Int32.toInt 0 = 0 := (by decide); omega) (by have qa0 : Int32.toInt 0 = 0 := (by decide); omega) (fun k e1 ht => kt76_663541 k e1 (fun R c1 c2 c3 => c3 g663536 g663537 z663551 z663552 z663562 z663563 k e1 bg663536 bg663537 r663550 hz663551 hz663552 bz663552 r663561 ez663562 ez663563 (ht R c1 c2 c3))) (by have qa0 : Int32.toInt 0 = 0 := (by decide); omega)
            exact hlp76_663541 (((z663418.toInt : Int) + 2 - z663416.toInt).toNat + 1) 1 z663416 (gB_w (gBl (show Int32.toInt 1 = 1 by decide)) (by decide) (by decide)) (gB_w bz663416 (by decide) (by decide)) (by have qa0 : Int32.toInt 0 = 0 := (by decide); have qa1 : Int32.toInt 1 = 1 := (by decide); omega) (by have qa0 : Int32.toInt 0 = 0 := (by decide); have qa1 : Int32.toInt 1 = 1 := (by decide); omega) (by have qa0 : Int32.toInt 0 = 0 := (by decide); have qa1 : Int32.toInt 1 = 1 := (by decide); omega) (by have qa0 : Int32.toInt 0 = 0 := (by decide); have qa1 : Int32.toInt 1 = 1 := (by decide); omega) (fun k e1 ht => ht) (Nat.lt_succ_self _)
        · have r663564 : z663409.toInt ≠ z657492.toInt := gC_ne hc663410
          have hlp30_664176 : ∀ (n30_664176 : Nat) (g664174 : Int32), gB g664174 (-2147483646) 16777215 → 0 ≤ g664174.toInt → g663403.toInt ≤ g664174.toInt → (∀ (k : Nat) (e1 : Int32), tl_RStringLatin1_indexOf2_30 z657493 bs657483 z657492 g664174 k e1 → tl_RStringLatin1_indexOf2_30 z657493 bs657483 z657492 g663403 k e1) → ((z657493.toInt : Int) + 2 - g664174.toInt).toNat < n30_664176 → G (gV D I) l (gRm 0 0 0 0) (gMA (gV D I) (pp_657491_StringLatin1_indexOf D I P657479 F657480 q657481 qs657482 bs657483 p657484 p657485 f657486 n657487) gNA 0 0) ky_657491_StringLatin1_indexOf 30 [(7, .int g664174), (6, .int z657493), (5, .int z657492), (0, .ref qs657482), (1, .int p657484), (2, .ref q657481), (3, .int p657485), (4, .int 0)] [] (va_pl P657479 F657480) 0 0 := by
            intro n30_664176
            induction n30_664176 with
            | zero => intro g664174 bg664174 x664175 x664176 kt30_664176 hm30_664176; exact absurd hm30_664176 (Nat.not_lt_zero _)
            | succ n30_664176 ih30_664176 =>
              intro g664174 bg664174 x664175 x664176 kt30_664176 hm30_664176
              obtain ⟨z664177, hz664177⟩ : ∃ z : Int32, z = g664174 + Int32.ofInt 1 := ⟨_, rfl⟩
              have ez664177 : z664177.toInt = g664174.toInt + 1 := gI_inc hz664177 (by decide) bg664174 (by decide) (by decide)
              have bz664177 : gB z664177 (-2147483645) 16777216 := ⟨by omega, by omega⟩
              refine G_iinc (L' := [(7, .int z664177), (6, .int z657493), (5, .int z657492), (0, .ref qs657482), (1, .int p657484), (2, .ref q657481), (3, .int p657485), (4, .int 0)]) z664177 0 dr_cJ1_indexOf_5af95_30 rfl hz664177.symm (Nat.le_of_ble_eq_true rfl) rfl ?_
              refine G_iload 0 dr_cJ1_indexOf_5af95_33 rfl ?_
              refine G_iload 1 dr_cJ1_indexOf_5af95_35 rfl ?_
              refine G_icmp_gt 52 dr_cJ1_indexOf_5af95_37 (by decide +kernel) (fun hc664178 => ?_) (fun hc664178 => ?_)
              · have r664179 : z657493.toInt < z664177.toInt := gC_lt hc664178
                have bz664177' : gB z664177 (-16777215) 16777216 := ⟨by omega, by omega⟩
                have hx664180 : tl_RStringLatin1_indexOf2_30 z657493 bs657483 z657492 g663403 52 z664177 := kt30_664176 52 z664177 (fun R c1 c2 c3 => c1 g664174 z664177 bg664174 ez664177 r664179)
                refine G_iload 0 dr_cJ1_indexOf_5af95_52 rfl ?_
                refine G_iload 1 dr_cJ1_indexOf_5af95_54 rfl ?_
                refine G_icmp_gt 113 dr_cJ1_indexOf_5af95_56 (by decide +kernel) (fun hc664181 => ?_) (fun hc664181 => ?_)
                · have r664182 : z657493.toInt < z664177.toInt := gC_lt hc664181
                  obtain ⟨z664183, hz664183⟩ : ∃ z : Int32, z = z664177 + Int32.ofInt 1 := ⟨_, rfl⟩
                  have ez664183 : z664183.toInt = z664177.toInt + 1 := gI_inc hz664183 (by decide) bz664177' (by decide) (by decide)
                  have bz664183 : gB z664183 (-16777214) 16777217 := ⟨by omega, by omega⟩
                  refine G_iinc (L' := [(7, .int z664183), (6, .int z657493), (5, .int z657492), (0, .ref qs657482), (1, .int p657484), (2, .ref q657481), (3, .int p657485), (4, .int 0)]) z664183 0 dr_cJ1_indexOf_5af95_113 rfl hz664183.symm (Nat.le_of_ble_eq_true rfl) rfl ?_
                  refine G_goto 14 dr_cJ1_indexOf_5af95_116 (by decide +kernel) ?_
                  exact ih14_663404 z664183 (gB_w bz664183 (by decide) (by decide)) (by have qa0 : Int32.toInt 0 = 0 := (by decide); omega) (fun k e1 ht => kt14_663404 k e1 (fun R c1 c2 c3 c4 c5 c6 c7 c8 c9 => c5 g663403 z663409 z664177 z664183 k e1 bg663403 r663408 hz663409 r663564 hx664180 r664182 ez664183 (ht R c1 c2 c3 c4 c5 c6 c7 c8 c9))) (by have qa0 : Int32.toInt 0 = 0 := (by decide); omega)
                · have r664184 : z664177.toInt ≤ z657493.toInt := gC_nlt hc664181
                  have bz664177'' : gB z664177 (-16777215) 16777215 := ⟨by omega, by omega⟩
                  have bz657493' : gB z657493 (-16777215) 16777215 := ⟨by omega, by omega⟩
                  refine G_iload 0 dr_cJ1_indexOf_5af95_59 rfl ?_
                  refine G_iconst 1 dr_cJ1_indexOf_5af95_61 (by decide +kernel) ?_
                  refine G_iadd dr_cJ1_indexOf_5af95_62 (G_nam fun z664185 hz664185 => ?_)
                  have ez664185 : z664185.toInt = z664177.toInt + 1 := by rw [gI_add hz664185 bz664177'' (gBl (show Int32.toInt 1 = 1 by decide)) (by decide) (by decide), show Int32.toInt 1 = 1 from by decide]
                  have bz664185 : gB z664185 (-16777214) 16777216 := gB_add (gI_add hz664185 bz664177'' (gBl (show Int32.toInt 1 = 1 by decide)) (by decide) (by decide)) bz664177'' (gBl (show Int32.toInt 1 = 1 by decide)) (by decide) (by decide)
                  refine G_istore (L' := [(8, .int z664185), (7, .int z664177), (6, .int z657493), (5, .int z657492), (0, .ref qs657482), (1, .int p657484), (2, .ref q657481), (3, .int p657485), (4, .int 0)]) dr_cJ1_indexOf_5af95_63 (Nat.le_of_ble_eq_true rfl) rfl ?_
                  refine G_iload 0 dr_cJ1_indexOf_5af95_65 rfl ?_
                  refine G_iload_n 7 dr_cJ1_indexOf_5af95_67 rfl ?_
                  refine G_iadd dr_cJ1_indexOf_5af95_68 (G_nam fun z664186 hz664186 => ?_)
                  have ez664186 : z664186.toInt = z664185.toInt + p657485.toInt := by rw [gI_add hz664186 bz664185 bp657485 (by decide) (by decide)]
                  have bz664186 : gB z664186 (-16777213) 33554432 := gB_add (gI_add hz664186 bz664185 bp657485 (by decide) (by decide)) bz664185 bp657485 (by decide) (by decide)
                  refine G_iconst 1 dr_cJ1_indexOf_5af95_69 (by decide +kernel) ?_
                  refine G_isub dr_cJ1_indexOf_5af95_70 (G_nam fun z664187 hz664187 => ?_)
                  have ez664187 : z664187.toInt = z664186.toInt - 1 := by rw [gI_sub hz664187 bz664186 (gBl (show Int32.toInt 1 = 1 by decide)) (by decide) (by decide), show Int32.toInt 1 = 1 from by decide]
                  have bz664187 : gB z664187 (-16777214) 33554431 := gB_sub (gI_sub hz664187 bz664186 (gBl (show Int32.toInt 1 = 1 by decide)) (by decide) (by decide)) bz664186 (gBl (show Int32.toInt 1 = 1 by decide)) (by decide) (by decide)
                  refine G_istore (L' := [(9, .int z664187), (8, .int z664185), (7, .int z664177), (6, .int z657493), (5, .int z657492), (0, .ref qs657482), (1, .int p657484), (2, .ref q657481), (3, .int p657485), (4, .int 0)]) dr_cJ1_indexOf_5af95_71 (Nat.le_of_ble_eq_true rfl) rfl ?_
                  refine G_iconst 1 dr_cJ1_indexOf_5af95_73 (by decide +kernel) ?_
                  refine G_istore (L' := [(10, .int 1), (9, .int z664187), (8, .int z664185), (7, .int z664177), (6, .int z657493), (5, .int z657492), (0, .ref qs657482), (1, .int p657484), (2, .ref q657481), (3, .int p657485), (4, .int 0)]) dr_cJ1_indexOf_5af95_74 (Nat.le_of_ble_eq_true rfl) rfl ?_
                  have hlp76_664310 : ∀ (n76_664310 : Nat) (g664305 : Int32) (g664306 : Int32), gB g664305 1 16777217 → gB g664306 (-16777214) 33554431 → 0 ≤ g664306.toInt → g664305.toInt = g664306.toInt - z664177.toInt → 1 ≤ g664305.toInt → g664306.toInt ≤ z664187.toInt → (∀ (k : Nat) (e1 : Int32), tl_RStringLatin1_indexOf2_76_2 z664187 bs657483 f657486 g664305 g664306 k e1 → tl_RStringLatin1_indexOf2_76_2 z664187 bs657483 f657486 (1 : Int32) z664185 k e1) → ((z664187.toInt : Int) + 2 - g664306.toInt).toNat < n76_664310 → G (gV D I) l (gRm 0 0 0 0) (gMA (gV D I) (pp_657491_StringLatin1_indexOf D I P657479 F657480 q657481 qs657482 bs657483 p657484 p657485 f657486 n657487) gNA 0 0) ky_657491_StringLatin1_indexOf 76 [(10, .int g664305), (9, .int z664187), (8, .int g664306), (7, .int z664177), (6, .int z657493), (5, .int z657492), (0, .ref qs657482), (1, .int p657484), (2, .ref q657481), (3, .int p657485), (4, .int 0)] [] (va_pl P657479 F657480) 0 0 := by
                    intro n76_664310
                    induction n76_664310 with
                    | zero => intro g664305 g664306 bg664305 bg664306 x664307 x664308 x664309 x664310 kt76_664310 hm76_664310; exact absurd hm76_664310 (Nat.not_lt_zero _)
                    | succ n76_664310 ih76_664310 =>
                      intro g664305 g664306 bg664305 bg664306 x664307 x664308 x664309 x664310 kt76_664310 hm76_664310
                      refine G_iload 2 dr_cJ1_indexOf_5af95_76 rfl ?_
                      refine G_iload 1 dr_cJ1_indexOf_5af95_78 rfl ?_
                      refine G_icmp_ge 103 dr_cJ1_indexOf_5af95_80 (by decide +kernel) (fun hc664311 => ?_) (fun hc664311 => ?_)
                      · have r664312 : z664187.toInt ≤ g664306.toInt := gC_le hc664311
                        have hx664313 : tl_RStringLatin1_indexOf2_76_2 z664187 bs657483 f657486 (1 : Int32) z664185 103 g664306 := kt76_664310 103 g664306 (fun R c1 c2 c3 => c1 g664305 g664306 bg664305 bg664306 r664312)
                        refine G_iload 2 dr_cJ1_indexOf_5af95_103 rfl ?_
                        refine G_iload 1 dr_cJ1_indexOf_5af95_105 rfl ?_
                        refine G_icmp_ne 113 dr_cJ1_indexOf_5af95_107 (by decide +kernel) (fun hc664314 => ?_) (fun hc664314 => ?_)
                        · have r664315 : g664306.toInt ≠ z664187.toInt := gC_ne hc664314
                          obtain ⟨z664316, hz664316⟩ : ∃ z : Int32, z = z664177 + Int32.ofInt 1 := ⟨_, rfl⟩
                          have ez664316 : z664316.toInt = z664177.toInt + 1 := gI_inc hz664316 (by decide) bz664177'' (by decide) (by decide)
                          have bz664316 : gB z664316 (-16777214) 16777216 := ⟨by omega, by omega⟩
                          refine G_iinc (L' := [(7, .int z664316), (10, .int g664305), (9, .int z664187), (8, .int g664306), (6, .int z657493), (5, .int z657492), (0, .ref qs657482), (1, .int p657484), (2, .ref q657481), (3, .int p657485), (4, .int 0)]) z664316 3 dr_cJ1_indexOf_5af95_113 rfl hz664316.symm (Nat.le_of_ble_eq_true rfl) rfl ?_
                          refine G_goto 14 dr_cJ1_indexOf_5af95_116 (by decide +kernel) ?_
                          refine G_lv (L' := [(7, .int z664316), (6, .int z657493), (5, .int z657492), (0, .ref qs657482), (1, .int p657484), (2, .ref q657481), (3, .int p657485), (4, .int 0)]) [0, 4, 5, 6, 7, 8, 9, 10] rfl ?_
                          exact ih14_663404 z664316 (gB_w bz664316 (by decide) (by decide)) (by have qa0 : Int32.toInt 0 = 0 := (by decide); omega) (fun k e1 ht => kt14_663404 k e1 (fun R c1 c2 c3 c4 c5 c6 c7 c8 c9 => c6 g663403 z663409 z664177 z664185 z664186 z664187 g664306 z664316 k e1 bg663403 r663408 hz663409 r663564 hx664180 r664184 ez664185 ez664186 ez664187 hx664313 r664315 ez664316 (ht R c1 c2 c3 c4 c5 c6 c7 c8 c9))) (by have qa0 : Int32.toInt 0 = 0 := (by decide); omega)
                        · have r664317 : g664306.toInt = z664187.toInt := gC_eq hc664314
                          have hx664318 : tl_RStringLatin1_indexOf2_14 z657493 bs657483 z657492 p657485 f657486 (0 : Int32) 110 z664177 := kt14_663404 110 z664177 (fun R c1 c2 c3 c4 c5 c6 c7 c8 c9 => c7 g663403 z663409 z664177 z664185 z664186 z664187 g664306 bg663403 r663408 hz663409 r663564 hx664180 r664184 ez664185 ez664186 ez664187 hx664313 r664317)
                          refine G_iload 3 dr_cJ1_indexOf_5af95_110 rfl ?_
                          exact G_iretA dr_cJ1_indexOf_5af95_112 rfl (Nat.le_of_ble_eq_true rfl) (Nat.le_of_ble_eq_true rfl) ⟨z664177, rfl, rfl, (Nat.le_of_ble_eq_true rfl), (Nat.le_of_ble_eq_true rfl), (gB_w bz664177'' (by decide) (by decide)), (by have qa0 : Int32.toInt 0 = 0 := (by decide); omega), (by first | exact ixP_of (by assumption) (by assumption) (by omega) | exact absurd (show False by omega) not_false), (fun R c1 c2 => c2 z657492 z657493 z664177 hz657492 bz657492 ez657493 hx664318)⟩
                      · have r664319 : g664306.toInt < z664187.toInt := gC_nle hc664311
                        have bg664306' : gB g664306 (-16777214) 33554430 := ⟨by omega, by omega⟩
                        have bz664187' : gB z664187 (-16777213) 33554431 := ⟨by omega, by omega⟩
                        refine G_aload_n 6 dr_cJ1_indexOf_5af95_83 rfl ?_
                        refine G_iload 2 dr_cJ1_indexOf_5af95_84 rfl ?_
                        refine G_kbald (f := fun j => bs657483.getD j 0) dr_cJ1_indexOf_5af95_86 hbs657483 (gB_inr (by omega) (by omega)) (G_nam fun z664320 hz664320 => ?_)
                        have bz664320 : gB z664320 (-2147483648) 2147483647 := gB_any z664320
                        refine G_aload_n 8 dr_cJ1_indexOf_5af95_87 rfl ?_
                        refine G_iload 0 dr_cJ1_indexOf_5af95_88 rfl ?_
                        refine Gp_bald 1 hmq657481 heq657481 dr_cJ1_indexOf_5af95_90 rfl (gB_inr (by omega) (by omega)) (G_nam fun z664321 hz664321 => ?_)
                        have bz664321 : gB z664321 (-128) 127 := by rw [hz664321]; exact bf657486 _
                        refine G_icmp_ne 103 dr_cJ1_indexOf_5af95_91 (by decide +kernel) (fun hc664322 => ?_) (fun hc664322 => ?_)
                        · have r664323 : z664320.toInt ≠ z664321.toInt := gC_ne hc664322
                          have hx664324 : tl_RStringLatin1_indexOf2_76_2 z664187 bs657483 f657486 (1 : Int32) z664185 103 g664306 := kt76_664310 103 g664306 (fun R c1 c2 c3 => c2 g664305 g664306 z664320 z664321 bg664305 bg664306 r664319 hz664320 hz664321 bz664321 r664323)
                          refine G_iload 2 dr_cJ1_indexOf_5af95_103 rfl ?_
                          refine G_iload 1 dr_cJ1_indexOf_5af95_105 rfl ?_
                          refine G_icmp_ne 113 dr_cJ1_indexOf_5af95_107 (by decide +kernel) (fun hc664325 => ?_) (fun hc664325 => ?_)
                          · have r664326 : g664306.toInt ≠ z664187.toInt := gC_ne hc664325
                            obtain ⟨z664327, hz664327⟩ : ∃ z : Int32, z = z664177 + Int32.ofInt 1 := ⟨_, rfl⟩
                            have ez664327 : z664327.toInt = z664177.toInt + 1 := gI_inc hz664327 (by decide) bz664177'' (by decide) (by decide)
                            have bz664327 : gB z664327 (-16777214) 16777216 := ⟨by omega, by omega⟩
                            refine G_iinc (L' := [(7, .int z664327), (10, .int g664305), (9, .int z664187), (8, .int g664306), (6, .int z657493), (5, .int z657492), (0, .ref qs657482), (1, .int p657484), (2, .ref q657481), (3, .int p657485), (4, .int 0)]) z664327 3 dr_cJ1_indexOf_5af95_113 rfl hz664327.symm (Nat.le_of_ble_eq_true rfl) rfl ?_
                            refine G_goto 14 dr_cJ1_indexOf_5af95_116 (by decide +kernel) ?_
                            refine G_lv (L' := [(7, .int z664327), (6, .int z657493), (5, .int z657492), (0, .ref qs657482), (1, .int p657484), (2, .ref q657481), (3, .int p657485), (4, .int 0)]) [0, 4, 5, 6, 7, 8, 9, 10] rfl ?_
                            exact ih14_663404 z664327 (gB_w bz664327 (by decide) (by decide)) (by have qa0 : Int32.toInt 0 = 0 := (by decide); omega) (fun k e1 ht => kt14_663404 k e1 (fun R c1 c2 c3 c4 c5 c6 c7 c8 c9 => c6 g663403 z663409 z664177 z664185 z664186 z664187 g664306 z664327 k e1 bg663403 r663408 hz663409 r663564 hx664180 r664184 ez664185 ez664186 ez664187 hx664324 r664326 ez664327 (ht R c1 c2 c3 c4 c5 c6 c7 c8 c9))) (by have qa0 : Int32.toInt 0 = 0 := (by decide); omega)
                          · have r664328 : g664306.toInt = z664187.toInt := gC_eq hc664325
                            have bg664306'' : gB g664306 (-16777213) 33554430 := ⟨by omega, by omega⟩
                            have bz664187'' : gB z664187 (-16777213) 33554430 := ⟨by omega, by omega⟩
                            have hx664329 : tl_RStringLatin1_indexOf2_14 z657493 bs657483 z657492 p657485 f657486 (0 : Int32) 110 z664177 := kt14_663404 110 z664177 (fun R c1 c2 c3 c4 c5 c6 c7 c8 c9 => c7 g663403 z663409 z664177 z664185 z664186 z664187 g664306 bg663403 r663408 hz663409 r663564 hx664180 r664184 ez664185 ez664186 ez664187 hx664324 r664328)
                            refine G_iload 3 dr_cJ1_indexOf_5af95_110 rfl ?_
                            exact G_iretA dr_cJ1_indexOf_5af95_112 rfl (Nat.le_of_ble_eq_true rfl) (Nat.le_of_ble_eq_true rfl) ⟨z664177, rfl, rfl, (Nat.le_of_ble_eq_true rfl), (Nat.le_of_ble_eq_true rfl), (gB_w bz664177'' (by decide) (by decide)), (by have qa0 : Int32.toInt 0 = 0 := (by decide); omega), (by first | exact ixP_of (by assumption) (by assumption) (by omega) | exact absurd (show False by omega) not_false), (fun R c1 c2 => c2 z657492 z657493 z664177 hz657492 bz657492 ez657493 hx664329)⟩
                        · have r664330 : z664320.toInt = z664321.toInt := gC_eq hc664322
                          have bz664320' : gB z664320 (-128) 127 := ⟨by omega, by omega⟩
                          obtain ⟨z664331, hz664331⟩ : ∃ z : Int32, z = g664306 + Int32.ofInt 1 := ⟨_, rfl⟩
                          have ez664331 : z664331.toInt = g664306.toInt + 1 := gI_inc hz664331 (by decide) bg664306' (by decide) (by decide)
                          have bz664331 : gB z664331 (-16777213) 33554431 := ⟨by omega, by omega⟩
                          refine G_iinc (L' := [(8, .int z664331), (10, .int g664305), (9, .int z664187), (7, .int z664177), (6, .int z657493), (5, .int z657492), (0, .ref qs657482), (1, .int p657484), (2, .ref q657481), (3, .int p657485), (4, .int 0)]) z664331 2 dr_cJ1_indexOf_5af95_94 rfl hz664331.symm (Nat.le_of_ble_eq_true rfl) rfl ?_
                          have bg664305' : gB g664305 1 16777216 := ⟨by omega, by omega⟩
                          obtain ⟨z664332, hz664332⟩ : ∃ z : Int32, z = g664305 + Int32.ofInt 1 := ⟨_, rfl⟩
                          have ez664332 : z664332.toInt = g664305.toInt + 1 := gI_inc hz664332 (by decide) bg664305' (by decide) (by decide)
                          have bz664332 : gB z664332 2 16777217 := ⟨by omega, by omega⟩
                          refine G_iinc (L' := [(10, .int z664332), (8, .int z664331), (9, .int z664187), (7, .int z664177), (6, .int z657493), (5, .int z657492), (0, .ref qs657482), (1, .int p657484), (2, .ref q657481), (3, .int p657485), (4, .int 0)]) z664332 1 dr_cJ1_indexOf_5af95_97 rfl hz664332.symm (Nat.le_of_ble_eq_true rfl) rfl ?_
                          refine G_goto 76 dr_cJ1_indexOf_5af95_100 (by decide +kernel) ?_
                          refine G_lv (L' := [(10, .int z664332), (9, .int z664187), (8, .int z664331), (7, .int z664177), (6, .int z657493), (5, .int z657492), (0, .ref qs657482), (1, .int p657484), (2, .ref q657481), (3, .int p657485), (4, .int 0)]) [0, 2, 1, 3, 4, 5, 6, 7, 8, 9, 10] rfl ?_
                          exact ih76_664310 z664332 z664331 (gB_w bz664332 (by decide) (by decide)) (gB_w bz664331 (by decide) (by decide)) (by have qa0 : Int32.toInt 0 = 0 := (by decide); omega) (by have qa0 : Int32.toInt 0 = 0 := (by decide); omega) (by have qa0 : Int32.toInt 0 = 0 := (by decide); omega) (by have qa0 : Int32.toInt 0 = 0 := (by decide); omega) (fun k e1 ht => kt76_664310 k e1 (fun R c1 c2 c3 => c3 g664305 g664306 z664320 z664321 z664331 z664332 k e1 bg664305 bg664306 r664319 hz664320 hz664321 bz664321 r664330 ez664331 ez664332 (ht R c1 c2 c3))) (by have qa0 : Int32.toInt 0 = 0 := (by decide); omega)
                  exact hlp76_664310 (((z664187.toInt : Int) + 2 - z664185.toInt).toNat + 1) 1 z664185 (gB_w (gBl (show Int32.toInt 1 = 1 by decide)) (by decide) (by decide)) (gB_w bz664185 (by decide) (by decide)) (by have qa0 : Int32.toInt 0 = 0 := (by decide); have qa1 : Int32.toInt 1 = 1 := (by decide); omega) (by have qa0 : Int32.toInt 0 = 0 := (by decide); have qa1 : Int32.toInt 1 = 1 := (by decide); omega) (by have qa0 : Int32.toInt 0 = 0 := (by decide); have qa1 : Int32.toInt 1 = 1 := (by decide); omega) (by have qa0 : Int32.toInt 0 = 0 := (by decide); have qa1 : Int32.toInt 1 = 1 := (by decide); omega) (fun k e1 ht => ht) (Nat.lt_succ_self _)
              · have r664333 : z664177.toInt ≤ z657493.toInt := gC_nlt hc664178
                have bz664177' : gB z664177 (-2147483645) 16777215 := ⟨by omega, by omega⟩
                refine G_aload_n 3 dr_cJ1_indexOf_5af95_40 rfl ?_
                refine G_iload 0 dr_cJ1_indexOf_5af95_41 rfl ?_
                refine G_kbald (f := fun j => bs657483.getD j 0) dr_cJ1_indexOf_5af95_43 hbs657483 (gB_inr (by omega) (by omega)) (G_nam fun z664334 hz664334 => ?_)
                have bz664334 : gB z664334 (-2147483648) 2147483647 := gB_any z664334
                refine G_iload 2 dr_cJ1_indexOf_5af95_44 rfl ?_
                refine G_icmp_eq 52 dr_cJ1_indexOf_5af95_46 (by decide +kernel) (fun hc664335 => ?_) (fun hc664335 => ?_)
                · have r664336 : z664334.toInt = z657492.toInt := gC_eq hc664335
                  have bz664334' : gB z664334 (-128) 127 := ⟨by omega, by omega⟩
                  have hx664337 : tl_RStringLatin1_indexOf2_30 z657493 bs657483 z657492 g663403 52 z664177 := kt30_664176 52 z664177 (fun R c1 c2 c3 => c2 g664174 z664177 z664334 bg664174 ez664177 r664333 hz664334 r664336)
                  refine G_iload 0 dr_cJ1_indexOf_5af95_52 rfl ?_
                  refine G_iload 1 dr_cJ1_indexOf_5af95_54 rfl ?_
                  refine G_icmp_gt 113 dr_cJ1_indexOf_5af95_56 (by decide +kernel) (fun hc664338 => ?_) (fun hc664338 => ?_)
                  · have r664339 : z657493.toInt < z664177.toInt := gC_lt hc664338
                    have bz657493' : gB z657493 (-16777216) 16777214 := ⟨by omega, by omega⟩
                    have bz664177'' : gB z664177 (-16777215) 16777215 := ⟨by omega, by omega⟩
                    obtain ⟨z664340, hz664340⟩ : ∃ z : Int32, z = z664177 + Int32.ofInt 1 := ⟨_, rfl⟩
                    have ez664340 : z664340.toInt = z664177.toInt + 1 := gI_inc hz664340 (by decide) bz664177'' (by decide) (by decide)
                    have bz664340 : gB z664340 (-16777214) 16777216 := ⟨by omega, by omega⟩
                    refine G_iinc (L' := [(7, .int z664340), (6, .int z657493), (5, .int z657492), (0, .ref qs657482), (1, .int p657484), (2, .ref q657481), (3, .int p657485), (4, .int 0)]) z664340 0 dr_cJ1_indexOf_5af95_113 rfl hz664340.symm (Nat.le_of_ble_eq_true rfl) rfl ?_
                    refine G_goto 14 dr_cJ1_indexOf_5af95_116 (by decide +kernel) ?_
                    exact ih14_663404 z664340 (gB_w bz664340 (by decide) (by decide)) (by have qa0 : Int32.toInt 0 = 0 := (by decide); omega) (fun k e1 ht => kt14_663404 k e1 (fun R c1 c2 c3 c4 c5 c6 c7 c8 c9 => c5 g663403 z663409 z664177 z664340 k e1 bg663403 r663408 hz663409 r663564 hx664337 r664339 ez664340 (ht R c1 c2 c3 c4 c5 c6 c7 c8 c9))) (by have qa0 : Int32.toInt 0 = 0 := (by decide); omega)
                  · have r664341 : z664177.toInt ≤ z657493.toInt := gC_nlt hc664338
                    refine G_iload 0 dr_cJ1_indexOf_5af95_59 rfl ?_
                    refine G_iconst 1 dr_cJ1_indexOf_5af95_61 (by decide +kernel) ?_
                    refine G_iadd dr_cJ1_indexOf_5af95_62 (G_nam fun z664342 hz664342 => ?_)
                    have ez664342 : z664342.toInt = z664177.toInt + 1 := by rw [gI_add hz664342 bz664177' (gBl (show Int32.toInt 1 = 1 by decide)) (by decide) (by decide), show Int32.toInt 1 = 1 from by decide]
                    have bz664342 : gB z664342 (-2147483644) 16777216 := gB_add (gI_add hz664342 bz664177' (gBl (show Int32.toInt 1 = 1 by decide)) (by decide) (by decide)) bz664177' (gBl (show Int32.toInt 1 = 1 by decide)) (by decide) (by decide)
                    refine G_istore (L' := [(8, .int z664342), (7, .int z664177), (6, .int z657493), (5, .int z657492), (0, .ref qs657482), (1, .int p657484), (2, .ref q657481), (3, .int p657485), (4, .int 0)]) dr_cJ1_indexOf_5af95_63 (Nat.le_of_ble_eq_true rfl) rfl ?_
                    refine G_iload 0 dr_cJ1_indexOf_5af95_65 rfl ?_
                    refine G_iload_n 7 dr_cJ1_indexOf_5af95_67 rfl ?_
                    refine G_iadd dr_cJ1_indexOf_5af95_68 (G_nam fun z664343 hz664343 => ?_)
                    have ez664343 : z664343.toInt = z664342.toInt + p657485.toInt := by rw [gI_add hz664343 bz664342 bp657485 (by decide) (by decide)]
                    have bz664343 : gB z664343 (-2147483643) 33554432 := gB_add (gI_add hz664343 bz664342 bp657485 (by decide) (by decide)) bz664342 bp657485 (by decide) (by decide)
                    refine G_iconst 1 dr_cJ1_indexOf_5af95_69 (by decide +kernel) ?_
                    refine G_isub dr_cJ1_indexOf_5af95_70 (G_nam fun z664344 hz664344 => ?_)
                    have ez664344 : z664344.toInt = z664343.toInt - 1 := by rw [gI_sub hz664344 bz664343 (gBl (show Int32.toInt 1 = 1 by decide)) (by decide) (by decide), show Int32.toInt 1 = 1 from by decide]
                    have bz664344 : gB z664344 (-2147483644) 33554431 := gB_sub (gI_sub hz664344 bz664343 (gBl (show Int32.toInt 1 = 1 by decide)) (by decide) (by decide)) bz664343 (gBl (show Int32.toInt 1 = 1 by decide)) (by decide) (by decide)
                    refine G_istore (L' := [(9, .int z664344), (8, .int z664342), (7, .int z664177), (6, .int z657493), (5, .int z657492), (0, .ref qs657482), (1, .int p657484), (2, .ref q657481), (3, .int p657485), (4, .int 0)]) dr_cJ1_indexOf_5af95_71 (Nat.le_of_ble_eq_true rfl) rfl ?_
                    refine G_iconst 1 dr_cJ1_indexOf_5af95_73 (by decide +kernel) ?_
                    refine G_istore (L' := [(10, .int 1), (9, .int z664344), (8, .int z664342), (7, .int z664177), (6, .int z657493), (5, .int z657492), (0, .ref qs657482), (1, .int p657484), (2, .ref q657481), (3, .int p657485), (4, .int 0)]) dr_cJ1_indexOf_5af95_74 (Nat.le_of_ble_eq_true rfl) rfl ?_
                    have hlp76_664467 : ∀ (n76_664467 : Nat) (g664462 : Int32) (g664463 : Int32), gB g664462 1 16777217 → gB g664463 (-2147483644) 33554431 → 0 ≤ g664463.toInt → g664462.toInt = g664463.toInt - z664177.toInt → 1 ≤ g664462.toInt → g664463.toInt ≤ z664344.toInt → (∀ (k : Nat) (e1 : Int32), tl_RStringLatin1_indexOf2_76_3 z664344 bs657483 f657486 g664462 g664463 k e1 → tl_RStringLatin1_indexOf2_76_3 z664344 bs657483 f657486 (1 : Int32) z664342 k e1) → ((z664344.toInt : Int) + 2 - g664463.toInt).toNat < n76_664467 → G (gV D I) l (gRm 0 0 0 0) (gMA (gV D I) (pp_657491_StringLatin1_indexOf D I P657479 F657480 q657481 qs657482 bs657483 p657484 p657485 f657486 n657487) gNA 0 0) ky_657491_StringLatin1_indexOf 76 [(10, .int g664462), (9, .int z664344), (8, .int g664463), (7, .int z664177), (6, .int z657493), (5, .int z657492), (0, .ref qs657482), (1, .int p657484), (2, .ref q657481), (3, .int p657485), (4, .int 0)] [] (va_pl P657479 F657480) 0 0 := by
                      intro n76_664467
                      induction n76_664467 with
                      | zero => intro g664462 g664463 bg664462 bg664463 x664464 x664465 x664466 x664467 kt76_664467 hm76_664467; exact absurd hm76_664467 (Nat.not_lt_zero _)
                      | succ n76_664467 ih76_664467 =>
                        intro g664462 g664463 bg664462 bg664463 x664464 x664465 x664466 x664467 kt76_664467 hm76_664467
                        refine G_iload 2 dr_cJ1_indexOf_5af95_76 rfl ?_
                        refine G_iload 1 dr_cJ1_indexOf_5af95_78 rfl ?_
                        refine G_icmp_ge 103 dr_cJ1_indexOf_5af95_80 (by decide +kernel) (fun hc664468 => ?_) (fun hc664468 => ?_)
                        · have r664469 : z664344.toInt ≤ g664463.toInt := gC_le hc664468
                          have hx664470 : tl_RStringLatin1_indexOf2_76_3 z664344 bs657483 f657486 (1 : Int32) z664342 103 g664463 := kt76_664467 103 g664463 (fun R c1 c2 c3 => c1 g664462 g664463 bg664462 bg664463 r664469)
                          refine G_iload 2 dr_cJ1_indexOf_5af95_103 rfl ?_
                          refine G_iload 1 dr_cJ1_indexOf_5af95_105 rfl ?_
                          refine G_icmp_ne 113 dr_cJ1_indexOf_5af95_107 (by decide +kernel) (fun hc664471 => ?_) (fun hc664471 => ?_)
                          · have r664472 : g664463.toInt ≠ z664344.toInt := gC_ne hc664471
                            obtain ⟨z664473, hz664473⟩ : ∃ z : Int32, z = z664177 + Int32.ofInt 1 := ⟨_, rfl⟩
                            have ez664473 : z664473.toInt = z664177.toInt + 1 := gI_inc hz664473 (by decide) bz664177' (by decide) (by decide)
                            have bz664473 : gB z664473 (-2147483644) 16777216 := ⟨by omega, by omega⟩
                            refine G_iinc (L' := [(7, .int z664473), (10, .int g664462), (9, .int z664344), (8, .int g664463), (6, .int z657493), (5, .int z657492), (0, .ref qs657482), (1, .int p657484), (2, .ref q657481), (3, .int p657485), (4, .int 0)]) z664473 3 dr_cJ1_indexOf_5af95_113 rfl hz664473.symm (Nat.le_of_ble_eq_true rfl) rfl ?_
                            refine G_goto 14 dr_cJ1_indexOf_5af95_116 (by decide +kernel) ?_
                            refine G_lv (L' := [(7, .int z664473), (6, .int z657493), (5, .int z657492), (0, .ref qs657482), (1, .int p657484), (2, .ref q657481), (3, .int p657485), (4, .int 0)]) [0, 4, 5, 6, 7, 8, 9, 10] rfl ?_
                            exact ih14_663404 z664473 (gB_w bz664473 (by decide) (by decide)) (by have qa0 : Int32.toInt 0 = 0 := (by decide); omega) (fun k e1 ht => kt14_663404 k e1 (fun R c1 c2 c3 c4 c5 c6 c7 c8 c9 => c8 g663403 z663409 z664177 z664342 z664343 z664344 g664463 z664473 k e1 bg663403 r663408 hz663409 r663564 hx664337 r664341 ez664342 ez664343 ez664344 hx664470 r664472 ez664473 (ht R c1 c2 c3 c4 c5 c6 c7 c8 c9))) (by have qa0 : Int32.toInt 0 = 0 := (by decide); omega)
                          · have r664474 : g664463.toInt = z664344.toInt := gC_eq hc664471
                            have hx664475 : tl_RStringLatin1_indexOf2_14 z657493 bs657483 z657492 p657485 f657486 (0 : Int32) 110 z664177 := kt14_663404 110 z664177 (fun R c1 c2 c3 c4 c5 c6 c7 c8 c9 => c9 g663403 z663409 z664177 z664342 z664343 z664344 g664463 bg663403 r663408 hz663409 r663564 hx664337 r664341 ez664342 ez664343 ez664344 hx664470 r664474)
                            refine G_iload 3 dr_cJ1_indexOf_5af95_110 rfl ?_
                            exact G_iretA dr_cJ1_indexOf_5af95_112 rfl (Nat.le_of_ble_eq_true rfl) (Nat.le_of_ble_eq_true rfl) ⟨z664177, rfl, rfl, (Nat.le_of_ble_eq_true rfl), (Nat.le_of_ble_eq_true rfl), (gB_w bz664177' (by decide) (by decide)), (by have qa0 : Int32.toInt 0 = 0 := (by decide); omega), (by first | exact ixP_of (by assumption) (by assumption) (by omega) | exact absurd (show False by omega) not_false), (fun R c1 c2 => c2 z657492 z657493 z664177 hz657492 bz657492 ez657493 hx664475)⟩
                        · have r664476 : g664463.toInt < z664344.toInt := gC_nle hc664468
                          have bg664463' : gB g664463 (-2147483644) 33554430 := ⟨by omega, by omega⟩
                          have bz664344' : gB z664344 (-2147483643) 33554431 := ⟨by omega, by omega⟩
                          refine G_aload_n 6 dr_cJ1_indexOf_5af95_83 rfl ?_
                          refine G_iload 2 dr_cJ1_indexOf_5af95_84 rfl ?_
                          refine G_kbald (f := fun j => bs657483.getD j 0) dr_cJ1_indexOf_5af95_86 hbs657483 (gB_inr (by omega) (by omega)) (G_nam fun z664477 hz664477 => ?_)
                          have bz664477 : gB z664477 (-2147483648) 2147483647 := gB_any z664477
                          refine G_aload_n 8 dr_cJ1_indexOf_5af95_87 rfl ?_
                          refine G_iload 0 dr_cJ1_indexOf_5af95_88 rfl ?_
                          refine Gp_bald 1 hmq657481 heq657481 dr_cJ1_indexOf_5af95_90 rfl (gB_inr (by omega) (by omega)) (G_nam fun z664478 hz664478 => ?_)
                          have bz664478 : gB z664478 (-128) 127 := by rw [hz664478]; exact bf657486 _
                          refine G_icmp_ne 103 dr_cJ1_indexOf_5af95_91 (by decide +kernel) (fun hc664479 => ?_) (fun hc664479 => ?_)
                          · have r664480 : z664477.toInt ≠ z664478.toInt := gC_ne hc664479
                            have hx664481 : tl_RStringLatin1_indexOf2_76_3 z664344 bs657483 f657486 (1 : Int32) z664342 103 g664463 := kt76_664467 103 g664463 (fun R c1 c2 c3 => c2 g664462 g664463 z664477 z664478 bg664462 bg664463 r664476 hz664477 hz664478 bz664478 r664480)
                            refine G_iload 2 dr_cJ1_indexOf_5af95_103 rfl ?_
                            refine G_iload 1 dr_cJ1_indexOf_5af95_105 rfl ?_
                            refine G_icmp_ne 113 dr_cJ1_indexOf_5af95_107 (by decide +kernel) (fun hc664482 => ?_) (fun hc664482 => ?_)
                            · have r664483 : g664463.toInt ≠ z664344.toInt := gC_ne hc664482
                              obtain ⟨z664484, hz664484⟩ : ∃ z : Int32, z = z664177 + Int32.ofInt 1 := ⟨_, rfl⟩
                              have ez664484 : z664484.toInt = z664177.toInt + 1 := gI_inc hz664484 (by decide) bz664177' (by decide) (by decide)
                              have bz664484 : gB z664484 (-2147483644) 16777216 := ⟨by omega, by omega⟩
                              refine G_iinc (L' := [(7, .int z664484), (10, .int g664462), (9, .int z664344), (8, .int g664463), (6, .int z657493), (5, .int z657492), (0, .ref qs657482), (1, .int p657484), (2, .ref q657481), (3, .int p657485), (4, .int 0)]) z664484 3 dr_cJ1_indexOf_5af95_113 rfl hz664484.symm (Nat.le_of_ble_eq_true rfl) rfl ?_
                              refine G_goto 14 dr_cJ1_indexOf_5af95_116 (by decide +kernel) ?_
                              refine G_lv (L' := [(7, .int z664484), (6, .int z657493), (5, .int z657492), (0, .ref qs657482), (1, .int p657484), (2, .ref q657481), (3, .int p657485), (4, .int 0)]) [0, 4, 5, 6, 7, 8, 9, 10] rfl ?_
                              exact ih14_663404 z664484 (gB_w bz664484 (by decide) (by decide)) (by have qa0 : Int32.toInt 0 = 0 := (by decide); omega) (fun k e1 ht => kt14_663404 k e1 (fun R c1 c2 c3 c4 c5 c6 c7 c8 c9 => c8 g663403 z663409 z664177 z664342 z664343 z664344 g664463 z664484 k e1 bg663403 r663408 hz663409 r663564 hx664337 r664341 ez664342 ez664343 ez664344 hx664481 r664483 ez664484 (ht R c1 c2 c3 c4 c5 c6 c7 c8 c9))) (by have qa0 : Int32.toInt 0 = 0 := (by decide); omega)
                            · have r664485 : g664463.toInt = z664344.toInt := gC_eq hc664482
                              have bg664463'' : gB g664463 (-2147483643) 33554430 := ⟨by omega, by omega⟩
                              have bz664344'' : gB z664344 (-2147483643) 33554430 := ⟨by omega, by omega⟩
                              have hx664486 : tl_RStringLatin1_indexOf2_14 z657493 bs657483 z657492 p657485 f657486 (0 : Int32) 110 z664177 := kt14_663404 110 z664177 (fun R c1 c2 c3 c4 c5 c6 c7 c8 c9 => c9 g663403 z663409 z664177 z664342 z664343 z664344 g664463 bg663403 r663408 hz663409 r663564 hx664337 r664341 ez664342 ez664343 ez664344 hx664481 r664485)
                              refine G_iload 3 dr_cJ1_indexOf_5af95_110 rfl ?_
                              exact G_iretA dr_cJ1_indexOf_5af95_112 rfl (Nat.le_of_ble_eq_true rfl) (Nat.le_of_ble_eq_true rfl) ⟨z664177, rfl, rfl, (Nat.le_of_ble_eq_true rfl), (Nat.le_of_ble_eq_true rfl), (gB_w bz664177' (by decide) (by decide)), (by have qa0 : Int32.toInt 0 = 0 := (by decide); omega), (by first | exact ixP_of (by assumption) (by assumption) (by omega) | exact absurd (show False by omega) not_false), (fun R c1 c2 => c2 z657492 z657493 z664177 hz657492 bz657492 ez657493 hx664486)⟩
                          · have r664487 : z664477.toInt = z664478.toInt := gC_eq hc664479
                            have bz664477' : gB z664477 (-128) 127 := ⟨by omega, by omega⟩
                            obtain ⟨z664488, hz664488⟩ : ∃ z : Int32, z = g664463 + Int32.ofInt 1 := ⟨_, rfl⟩
                            have ez664488 : z664488.toInt = g664463.toInt + 1 := gI_inc hz664488 (by decide) bg664463' (by decide) (by decide)
                            have bz664488 : gB z664488 (-2147483643) 33554431 := ⟨by omega, by omega⟩
                            refine G_iinc (L' := [(8, .int z664488), (10, .int g664462), (9, .int z664344), (7, .int z664177), (6, .int z657493), (5, .int z657492), (0, .ref qs657482), (1, .int p657484), (2, .ref q657481), (3, .int p657485), (4, .int 0)]) z664488 2 dr_cJ1_indexOf_5af95_94 rfl hz664488.symm (Nat.le_of_ble_eq_true rfl) rfl ?_
                            have bg664462' : gB g664462 1 16777216 := ⟨by omega, by omega⟩
                            obtain ⟨z664489, hz664489⟩ : ∃ z : Int32, z = g664462 + Int32.ofInt 1 := ⟨_, rfl⟩
                            have ez664489 : z664489.toInt = g664462.toInt + 1 := gI_inc hz664489 (by decide) bg664462' (by decide) (by decide)
                            have bz664489 : gB z664489 2 16777217 := ⟨by omega, by omega⟩
                            refine G_iinc (L' := [(10, .int z664489), (8, .int z664488), (9, .int z664344), (7, .int z664177), (6, .int z657493), (5, .int z657492), (0, .ref qs657482), (1, .int p657484), (2, .ref q657481), (3, .int p657485), (4, .int 0)]) z664489 1 dr_cJ1_indexOf_5af95_97 rfl hz664489.symm (Nat.le_of_ble_eq_true rfl) rfl ?_
                            refine G_goto 76 dr_cJ1_indexOf_5af95_100 (by decide +kernel) ?_
                            refine G_lv (L' := [(10, .int z664489), (9, .int z664344), (8, .int z664488), (7, .int z664177), (6, .int z657493), (5, .int z657492), (0, .ref qs657482), (1, .int p657484), (2, .ref q657481), (3, .int p657485), (4, .int 0)]) [0, 2, 1, 3, 4, 5, 6, 7, 8, 9, 10] rfl ?_
                            exact ih76_664467 z664489 z664488 (gB_w bz664489 (by decide) (by decide)) (gB_w bz664488 (by decide) (by decide)) (by have qa0 : Int32.toInt 0 = 0 := (by decide); omega) (by have qa0 : Int32.toInt 0 = 0 := (by decide); omega) (by have qa0 : Int32.toInt 0 = 0 := (by decide); omega) (by have qa0 : Int32.toInt 0 = 0 := (by decide); omega) (fun k e1 ht => kt76_664467 k e1 (fun R c1 c2 c3 => c3 g664462 g664463 z664477 z664478 z664488 z664489 k e1 bg664462 bg664463 r664476 hz664477 hz664478 bz664478 r664487 ez664488 ez664489 (ht R c1 c2 c3))) (by have qa0 : Int32.toInt 0 = 0 := (by decide); omega)
                    exact hlp76_664467 (((z664344.toInt : Int) + 2 - z664342.toInt).toNat + 1) 1 z664342 (gB_w (gBl (show Int32.toInt 1 = 1 by decide)) (by decide) (by decide)) (gB_w bz664342 (by decide) (by decide)) (by have qa0 : Int32.toInt 0 = 0 := (by decide); have qa1 : Int32.toInt 1 = 1 := (by decide); omega) (by have qa0 : Int32.toInt 0 = 0 := (by decide); have qa1 : Int32.toInt 1 = 1 := (by decide); omega) (by have qa0 : Int32.toInt 0 = 0 := (by decide); have qa1 : Int32.toInt 1 = 1 := (by decide); omega) (by have qa0 : Int32.toInt 0 = 0 := (by decide); have qa1 : Int32.toInt 1 = 1 := (by decide); omega) (fun k e1 ht => ht) (Nat.lt_succ_self _)
                · have r664490 : z664334.toInt ≠ z657492.toInt := gC_ne hc664335
                  refine G_goto 30 dr_cJ1_indexOf_5af95_49 (by decide +kernel) ?_
                  exact ih30_664176 z664177 (gB_w bz664177' (by decide) (by decide)) (by have qa0 : Int32.toInt 0 = 0 := (by decide); omega) (by have qa0 : Int32.toInt 0 = 0 := (by decide); omega) (fun k e1 ht => kt30_664176 k e1 (fun R c1 c2 c3 => c3 g664174 z664177 z664334 k e1 bg664174 ez664177 r664333 hz664334 r664490 (ht R c1 c2 c3))) (by have qa0 : Int32.toInt 0 = 0 := (by decide); omega)
          exact hlp30_664176 (((z657493.toInt : Int) + 2 - g663403.toInt).toNat + 1) g663403 bg663403' (by have qa0 : Int32.toInt 0 = 0 := (by decide); omega) (by have qa0 : Int32.toInt 0 = 0 := (by decide); omega) (fun k e1 ht => ht) (Nat.lt_succ_self _)
  exact hlp14_663404 (((z657493.toInt : Int) + 2 - 0).toNat + 1) 0 (gB_w (gBl (show Int32.toInt 0 = 0 by decide)) (by decide) (by decide)) (by have qa0 : Int32.toInt 0 = 0 := (by decide); omega) (fun k e1 ht => ht) (Nat.lt_succ_self _)
/- tr_RStringLatin1_indexOf: result -/
def tr_RStringLatin1_indexOf (bs : List Int32) (a1_v : Nat → Int32) (a1_n : Nat) (o1 : Int32) : Prop := ∀ R : (Int32) → Prop,
  (∀ (x1 : Int32) (x2 : Int32) (x3 : Int32) (x4 : Int32) (x5 : Int32), x1.toInt = (a1_n : Nat) → x1.toInt ≠ 0 → x2.toInt = (bs.length : Int) → x2.toInt ≠ 0 → x3.toInt = (bs.length : Int) → x4.toInt = (a1_n : Nat) → gB x5 (-2147483646) 16777215 → tr_RStringLatin1_indexOf2 bs x3 x4 a1_v x5 → R x5) →
  (∀ (x1 : Int32) (x2 : Int32), x1.toInt = (a1_n : Nat) → x1.toInt ≠ 0 → x2.toInt = (bs.length : Int) → x2.toInt = 0 → R (-1 : Int32)) →
  R o1
