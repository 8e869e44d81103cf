theorem dr_cJ0_isLatin1_aae02_0 : decode cJ0_isLatin1_aae02 0 = .ok (.getstatic 38, 3) := by decide +kernel
theorem dr_cJ0_isLatin1_aae02_3 : decode cJ0_isLatin1_aae02 3 = .ok (.ifCond .eq 14, 3) := by decide +kernel
theorem dr_cJ0_isLatin1_aae02_6 : decode cJ0_isLatin1_aae02 6 = .ok (.aload_n 0, 1) := by decide +kernel
theorem dr_cJ0_isLatin1_aae02_7 : decode cJ0_isLatin1_aae02 7 = .ok (.getfield 15, 3) := by decide +kernel
theorem dr_cJ0_isLatin1_aae02_10 : decode cJ0_isLatin1_aae02 10 = .ok (.ifCond .ne 7, 3) := by decide +kernel
theorem dr_cJ0_isLatin1_aae02_13 : decode cJ0_isLatin1_aae02 13 = .ok (.iconst 1, 1) := by decide +kernel
theorem dr_cJ0_isLatin1_aae02_14 : decode cJ0_isLatin1_aae02 14 = .ok (.goto 4, 3) := by decide +kernel
theorem dr_cJ0_isLatin1_aae02_18 : decode cJ0_isLatin1_aae02 18 = .ok (.ireturn, 1) := by decide +kernel
theorem dr_cJ1_charAt_3b067_0 : decode cJ1_charAt_3b067 0 = .ok (.iload_n 1, 1) := by decide +kernel
theorem dr_cJ1_charAt_3b067_1 : decode cJ1_charAt_3b067 1 = .ok (.aload_n 0, 1) := by decide +kernel
theorem dr_cJ1_charAt_3b067_2 : decode cJ1_charAt_3b067 2 = .ok (.arraylength, 1) := by decide +kernel
theorem dr_cJ1_charAt_3b067_3 : decode cJ1_charAt_3b067 3 = .ok (.invokestatic 9, 3) := by decide +kernel
theorem wr_3_78 : (Jvm.Cond.methodLink "java/lang/StringLatin1" (9 : Nat) ({ cls := "java/lang/String", name := "checkIndex", desc := "(II)V" } : Jvm.MethodName)) ∈ gw := gw_3 78 rfl rfl
theorem dr_cJ1_charAt_3b067_6 : decode cJ1_charAt_3b067 6 = .ok (.aload_n 0, 1) := by decide +kernel
theorem dr_cJ1_charAt_3b067_7 : decode cJ1_charAt_3b067 7 = .ok (.iload_n 1, 1) := by decide +kernel
theorem dr_cJ1_charAt_3b067_8 : decode cJ1_charAt_3b067 8 = .ok (.baload, 1) := by decide +kernel
theorem dr_cJ1_charAt_3b067_9 : decode cJ1_charAt_3b067 9 = .ok (.sipush 255, 3) := by decide +kernel
theorem dr_cJ1_charAt_3b067_12 : decode cJ1_charAt_3b067 12 = .ok (.iand, 1) := by decide +kernel
theorem dr_cJ1_charAt_3b067_13 : decode cJ1_charAt_3b067 13 = .ok (.i2c, 1) := by decide +kernel
theorem dr_cJ1_charAt_3b067_14 : decode cJ1_charAt_3b067 14 = .ok (.ireturn, 1) := by decide +kernel
theorem dr_cJ0_charAt_5068e_0 : decode cJ0_charAt_5068e 0 = .ok (.aload_n 0, 1) := by decide +kernel
theorem dr_cJ0_charAt_5068e_1 : decode cJ0_charAt_5068e 1 = .ok (.invokevirtual 492, 3) := by decide +kernel
theorem wr_3_71 : (Jvm.Cond.methodLink "java/lang/String" (492 : Nat) ({ cls := "java/lang/String", name := "isLatin1", desc := "()Z" } : Jvm.MethodName)) ∈ gw := gw_3 71 rfl rfl
theorem wr_3_74 : (Jvm.Cond.code ({ cls := "java/lang/String", name := "isLatin1", desc := "()Z" } : Jvm.MethodName) prog_34_method_154_code (1 : Nat) (Option.some Jvm.ClassFile.FieldType.boolean)) ∈ gw := gw_3 74 rfl rfl
theorem wr_3_72 : (Jvm.Cond.instanceMethod ({ cls := "java/lang/String", name := "isLatin1", desc := "()Z" } : Jvm.MethodName)) ∈ gw := gw_3 72 rfl rfl
theorem wr_3_73 : (Jvm.Cond.selects "java/lang/String" ({ cls := "java/lang/String", name := "isLatin1", desc := "()Z" } : Jvm.MethodName) ({ cls := "java/lang/String", name := "isLatin1", desc := "()Z" } : Jvm.MethodName)) ∈ gw := gw_3 73 rfl rfl
theorem dr_cJ0_charAt_5068e_4 : decode cJ0_charAt_5068e 4 = .ok (.ifCond .eq 12, 3) := by decide +kernel
theorem dr_cJ0_charAt_5068e_7 : decode cJ0_charAt_5068e 7 = .ok (.aload_n 0, 1) := by decide +kernel
theorem dr_cJ0_charAt_5068e_8 : decode cJ0_charAt_5068e 8 = .ok (.getfield 9, 3) := by decide +kernel
theorem dr_cJ0_charAt_5068e_11 : decode cJ0_charAt_5068e 11 = .ok (.iload_n 1, 1) := by decide +kernel
theorem dr_cJ0_charAt_5068e_12 : decode cJ0_charAt_5068e 12 = .ok (.invokestatic 495, 3) := by decide +kernel
theorem wr_3_75 : (Jvm.Cond.methodLink "java/lang/String" (495 : Nat) ({ cls := "java/lang/StringLatin1", name := "charAt", desc := "([BI)C" } : Jvm.MethodName)) ∈ gw := gw_3 75 rfl rfl
theorem wr_3_77 : (Jvm.Cond.code ({ cls := "java/lang/StringLatin1", name := "charAt", desc := "([BI)C" } : Jvm.MethodName) prog_37_method_2_code (2 : Nat) (Option.some Jvm.ClassFile.FieldType.char)) ∈ gw := gw_3 77 rfl rfl
theorem wr_3_76 : (Jvm.Cond.static ({ cls := "java/lang/StringLatin1", name := "charAt", desc := "([BI)C" } : Jvm.MethodName)) ∈ gw := gw_3 76 rfl rfl
theorem dr_cJ0_charAt_5068e_15 : decode cJ0_charAt_5068e 15 = .ok (.ireturn, 1) := by decide +kernel
theorem dr_cJ1_indexOf_5af95_0 : decode cJ1_indexOf_5af95 0 = .ok (.aload_n 2, 1) := by decide +kernel
theorem dr_cJ1_indexOf_5af95_1 : decode cJ1_indexOf_5af95 1 = .ok (.iconst 0, 1) := by decide +kernel
theorem dr_cJ1_indexOf_5af95_2 : decode cJ1_indexOf_5af95 2 = .ok (.baload, 1) := by decide +kernel
theorem dr_cJ1_indexOf_5af95_3 : decode cJ1_indexOf_5af95 3 = .ok (.istore 5, 2) := by decide +kernel
theorem dr_cJ1_indexOf_5af95_5 : decode cJ1_indexOf_5af95 5 = .ok (.iload_n 1, 1) := by decide +kernel
theorem dr_cJ1_indexOf_5af95_6 : decode cJ1_indexOf_5af95 6 = .ok (.iload_n 3, 1) := by decide +kernel
theorem dr_cJ1_indexOf_5af95_7 : decode cJ1_indexOf_5af95 7 = .ok (.isub, 1) := by decide +kernel
theorem dr_cJ1_indexOf_5af95_8 : decode cJ1_indexOf_5af95 8 = .ok (.istore 6, 2) := by decide +kernel
theorem dr_cJ1_indexOf_5af95_10 : decode cJ1_indexOf_5af95 10 = .ok (.iload 4, 2) := by decide +kernel
theorem dr_cJ1_indexOf_5af95_12 : decode cJ1_indexOf_5af95 12 = .ok (.istore 7, 2) := by decide +kernel
theorem dr_cJ1_indexOf_5af95_14 : decode cJ1_indexOf_5af95 14 = .ok (.iload 7, 2) := by decide +kernel
theorem dr_cJ1_indexOf_5af95_16 : decode cJ1_indexOf_5af95 16 = .ok (.iload 6, 2) := by decide +kernel
theorem dr_cJ1_indexOf_5af95_18 : decode cJ1_indexOf_5af95 18 = .ok (.if_icmp .gt 101, 3) := by decide +kernel
theorem dr_cJ1_indexOf_5af95_119 : decode cJ1_indexOf_5af95 119 = .ok (.iconst (-1), 1) := by decide +kernel
theorem dr_cJ1_indexOf_5af95_120 : decode cJ1_indexOf_5af95 120 = .ok (.ireturn, 1) := by decide +kernel
theorem dr_cJ1_indexOf_5af95_21 : decode cJ1_indexOf_5af95 21 = .ok (.aload_n 0, 1) := by decide +kernel
theorem dr_cJ1_indexOf_5af95_22 : decode cJ1_indexOf_5af95 22 = .ok (.iload 7, 2) := by decide +kernel
theorem dr_cJ1_indexOf_5af95_24 : decode cJ1_indexOf_5af95 24 = .ok (.baload, 1) := by decide +kernel
theorem dr_cJ1_indexOf_5af95_25 : decode cJ1_indexOf_5af95 25 = .ok (.iload 5, 2) := by decide +kernel
theorem dr_cJ1_indexOf_5af95_27 : decode cJ1_indexOf_5af95 27 = .ok (.if_icmp .eq 25, 3) := by decide +kernel
theorem dr_cJ1_indexOf_5af95_52 : decode cJ1_indexOf_5af95 52 = .ok (.iload 7, 2) := by decide +kernel
theorem dr_cJ1_indexOf_5af95_54 : decode cJ1_indexOf_5af95 54 = .ok (.iload 6, 2) := by decide +kernel
theorem dr_cJ1_indexOf_5af95_56 : decode cJ1_indexOf_5af95 56 = .ok (.if_icmp .gt 57, 3) := by decide +kernel
theorem dr_cJ1_indexOf_5af95_113 : decode cJ1_indexOf_5af95 113 = .ok (.iinc 7 1, 3) := by decide +kernel
theorem dr_cJ1_indexOf_5af95_116 : decode cJ1_indexOf_5af95 116 = .ok (.goto (-102), 3) := by decide +kernel
theorem dr_cJ1_indexOf_5af95_59 : decode cJ1_indexOf_5af95 59 = .ok (.iload 7, 2) := by decide +kernel
theorem dr_cJ1_indexOf_5af95_61 : decode cJ1_indexOf_5af95 61 = .ok (.iconst 1, 1) := by decide +kernel
theorem dr_cJ1_indexOf_5af95_62 : decode cJ1_indexOf_5af95 62 = .ok (.iadd, 1) := by decide +kernel
theorem dr_cJ1_indexOf_5af95_63 : decode cJ1_indexOf_5af95 63 = .ok (.istore 8, 2) := by decide +kernel
theorem dr_cJ1_indexOf_5af95_65 : decode cJ1_indexOf_5af95 65 = .ok (.iload 8, 2) := by decide +kernel
theorem dr_cJ1_indexOf_5af95_67 : decode cJ1_indexOf_5af95 67 = .ok (.iload_n 3, 1) := by decide +kernel
theorem dr_cJ1_indexOf_5af95_68 : decode cJ1_indexOf_5af95 68 = .ok (.iadd, 1) := by decide +kernel
theorem dr_cJ1_indexOf_5af95_69 : decode cJ1_indexOf_5af95 69 = .ok (.iconst 1, 1) := by decide +kernel
theorem dr_cJ1_indexOf_5af95_70 : decode cJ1_indexOf_5af95 70 = .ok (.isub, 1) := by decide +kernel
theorem dr_cJ1_indexOf_5af95_71 : decode cJ1_indexOf_5af95 71 = .ok (.istore 9, 2) := by decide +kernel
theorem dr_cJ1_indexOf_5af95_73 : decode cJ1_indexOf_5af95 73 = .ok (.iconst 1, 1) := by decide +kernel
theorem dr_cJ1_indexOf_5af95_74 : decode cJ1_indexOf_5af95 74 = .ok (.istore 10, 2) := by decide +kernel
theorem dr_cJ1_indexOf_5af95_76 : decode cJ1_indexOf_5af95 76 = .ok (.iload 8, 2) := by decide +kernel
theorem dr_cJ1_indexOf_5af95_78 : decode cJ1_indexOf_5af95 78 = .ok (.iload 9, 2) := by decide +kernel
theorem dr_cJ1_indexOf_5af95_80 : decode cJ1_indexOf_5af95 80 = .ok (.if_icmp .ge 23, 3) := by decide +kernel
theorem dr_cJ1_indexOf_5af95_103 : decode cJ1_indexOf_5af95 103 = .ok (.iload 8, 2) := by decide +kernel
theorem dr_cJ1_indexOf_5af95_105 : decode cJ1_indexOf_5af95 105 = .ok (.iload 9, 2) := by decide +kernel
theorem dr_cJ1_indexOf_5af95_107 : decode cJ1_indexOf_5af95 107 = .ok (.if_icmp .ne 6, 3) := by decide +kernel
theorem dr_cJ1_indexOf_5af95_110 : decode cJ1_indexOf_5af95 110 = .ok (.iload 7, 2) := by decide +kernel
theorem dr_cJ1_indexOf_5af95_112 : decode cJ1_indexOf_5af95 112 = .ok (.ireturn, 1) := by decide +kernel
theorem dr_cJ1_indexOf_5af95_83 : decode cJ1_indexOf_5af95 83 = .ok (.aload_n 0, 1) := by decide +kernel
theorem dr_cJ1_indexOf_5af95_84 : decode cJ1_indexOf_5af95 84 = .ok (.iload 8, 2) := by decide +kernel
theorem dr_cJ1_indexOf_5af95_86 : decode cJ1_indexOf_5af95 86 = .ok (.baload, 1) := by decide +kernel
theorem dr_cJ1_indexOf_5af95_87 : decode cJ1_indexOf_5af95 87 = .ok (.aload_n 2, 1) := by decide +kernel
theorem dr_cJ1_indexOf_5af95_88 : decode cJ1_indexOf_5af95 88 = .ok (.iload 10, 2) := by decide +kernel
theorem dr_cJ1_indexOf_5af95_90 : decode cJ1_indexOf_5af95 90 = .ok (.baload, 1) := by decide +kernel
theorem dr_cJ1_indexOf_5af95_91 : decode cJ1_indexOf_5af95 91 = .ok (.if_icmp .ne 12, 3) := by decide +kernel
theorem dr_cJ1_indexOf_5af95_94 : decode cJ1_indexOf_5af95 94 = .ok (.iinc 8 1, 3) := by decide +kernel
theorem dr_cJ1_indexOf_5af95_97 : decode cJ1_indexOf_5af95 97 = .ok (.iinc 10 1, 3) := by decide +kernel
theorem dr_cJ1_indexOf_5af95_100 : decode cJ1_indexOf_5af95 100 = .ok (.goto (-24), 3) := by decide +kernel
theorem dr_cJ1_indexOf_5af95_30 : decode cJ1_indexOf_5af95 30 = .ok (.iinc 7 1, 3) := by decide +kernel
theorem dr_cJ1_indexOf_5af95_33 : decode cJ1_indexOf_5af95 33 = .ok (.iload 7, 2) := by decide +kernel
theorem dr_cJ1_indexOf_5af95_35 : decode cJ1_indexOf_5af95 35 = .ok (.iload 6, 2) := by decide +kernel
theorem dr_cJ1_indexOf_5af95_37 : decode cJ1_indexOf_5af95 37 = .ok (.if_icmp .gt 15, 3) := by decide +kernel
theorem dr_cJ1_indexOf_5af95_40 : decode cJ1_indexOf_5af95 40 = .ok (.aload_n 0, 1) := by decide +kernel
theorem dr_cJ1_indexOf_5af95_41 : decode cJ1_indexOf_5af95 41 = .ok (.iload 7, 2) := by decide +kernel
theorem dr_cJ1_indexOf_5af95_43 : decode cJ1_indexOf_5af95 43 = .ok (.baload, 1) := by decide +kernel
theorem dr_cJ1_indexOf_5af95_44 : decode cJ1_indexOf_5af95 44 = .ok (.iload 5, 2) := by decide +kernel
theorem dr_cJ1_indexOf_5af95_46 : decode cJ1_indexOf_5af95 46 = .ok (.if_icmp .eq 6, 3) := by decide +kernel
theorem dr_cJ1_indexOf_5af95_49 : decode cJ1_indexOf_5af95 49 = .ok (.goto (-19), 3) := by decide +kernel
abbrev ky_660304_String_isLatin1 : gKey := (cJ0_isLatin1_aae02, 1, "java/lang/String", (some FieldType.boolean), [], "isLatin1", fun _ _ => True)
def pp_660304_String_isLatin1 (D : va_G) (I : FieldType → ClassId) (P660299 : List Nat) (F660300 : Nat → va_E) (qs660301 : Nat) (qb660302 : Nat) (bs660303 : List Int32) : Option Value → va_W → Nat → Nat → Prop := fun r w dc ds => r = some (.int 1) ∧ w = va_pl P660299 F660300 ∧ dc ≤ 0 ∧ ds ≤ 0
set_option maxRecDepth 100000 in
set_option maxHeartbeats 4000000 in
theorem cp_660304_String_isLatin1 (l : Launch) (hl0 : l.stackTraces = false) (D : va_G) (I : FieldType → ClassId) (P660299 : List Nat) (F660300 : Nat → va_E) (qs660301 : Nat) (qb660302 : Nat) (bs660303 : List Int32) (hbs660303 : ∀ A s H, (gV D I).2.2.2.1 A s H → gSC qs660301 qb660302 bs660303 A s H) (nbs660303 : (bs660303.length : Int) ≤ 65535) (lbs660303 : gLB bs660303) : CtA (gV D I) l yJ0_isLatin1_aae02 cJ0_isLatin1_aae02 1 (some FieldType.boolean) 0 0 0 0 [.ref qs660301] (va_pl P660299 F660300) (pp_660304_String_isLatin1 D I P660299 F660300 qs660301 qb660302 bs660303) gNA := by
  refine CtA_ofF hl0 (by decide +kernel) (Nat.le_of_ble_eq_true rfl) ?_
  refine G_gets dr_cJ0_isLatin1_aae02_0 wr_3_65 gz_cs (fun x hx => ?_)
  subst hx
  refine G_if_eq 17 dr_cJ0_isLatin1_aae02_3 (by decide +kernel) (fun hc => absurd hc (by decide)) (fun _ => ?_)
  refine G_aload_n 0 dr_cJ0_isLatin1_aae02_6 rfl ?_
  refine G_kget dr_cJ0_isLatin1_aae02_7 wr_8_183 (fun _ _ _ h => (hbs660303 _ _ _ h).2.1) ?_
  refine G_if_ne 17 dr_cJ0_isLatin1_aae02_10 (by decide +kernel) (fun hc => absurd hc (by decide)) (fun _ => ?_)
  refine G_iconst 1 dr_cJ0_isLatin1_aae02_13 (by decide +kernel) ?_
  refine G_goto 18 dr_cJ0_isLatin1_aae02_14 (by decide +kernel) ?_
  exact G_zretA FieldType.boolean dr_cJ0_isLatin1_aae02_18 rfl rfl (Nat.le_of_ble_eq_true rfl) (Nat.le_of_ble_eq_true rfl) ⟨rfl, rfl, (Nat.le_of_ble_eq_true rfl), (Nat.le_of_ble_eq_true rfl)⟩
/- tr_RStringLatin1_charAt: result -/
def tr_RStringLatin1_charAt (bs : List Int32) (a1 : Int32) (o1 : Int32) : Prop := ∀ R : (Int32) → Prop,
  (∀ (x1 : Int32) (x2 : Int32) (x3 : Int32) (x4 : Int32), x1.toInt = (bs.length : Int) → tr_RString_checkIndex a1 x1 → x2 = bs.getD a1.toNatClampNeg 0 → x3 = x2 &&& (255 : Int32) → x4 = (x3.toUInt32 % 65536).toInt32 → R x4) →
  R o1
abbrev ky_660316_StringLatin1_charAt : gKey := (cJ1_charAt_3b067, 2, "java/lang/StringLatin1", (some FieldType.char), [], "charAt", fun _ _ => True)
def pp_660316_StringLatin1_charAt (D : va_G) (I : FieldType → ClassId) (P660310 : List Nat) (F660311 : Nat → va_E) (qs660312 : Nat) (bs660313 : List Int32) (p660314 : Int32) : Option Value → va_W → Nat → Nat → Prop := fun r w dc ds => ∃ (o660327 : Int32), r = some (.int o660327) ∧ w = va_pl P660310 F660311 ∧ dc ≤ 0 ∧ ds ≤ 0 ∧ gB o660327 0 65535 ∧ tr_RStringLatin1_charAt bs660313 p660314 o660327
set_option maxRecDepth 100000 in
set_option maxHeartbeats 4000000 in
theorem cp_660316_StringLatin1_charAt (l : Launch) (hl0 : l.stackTraces = false) (D : va_G) (I : FieldType → ClassId) (P660310 : List Nat) (F660311 : Nat → va_E) (qs660312 : Nat) (bs660313 : List Int32) (p660314 : Int32) (hbs660313 : ∀ A s H, (gV D I).2.2.2.1 A s H → va_T .byte qs660312 bs660313.length (fun j => .int (bs660313.getD j 0)) A s H) (nbs660313 : (bs660313.length : Int) ≤ 65535) (lbs660313 : gLB bs660313) (bp660314 : gB p660314 0 16777215) (x660315 : p660314.toInt < (bs660313.length : Int)) : CtA (gV D I) l yJ1_charAt_3b067 cJ1_charAt_3b067 2 (some FieldType.char) 2 43 0 0 [.ref qs660312, .int p660314] (va_pl P660310 F660311) (pp_660316_StringLatin1_charAt D I P660310 F660311 qs660312 bs660313 p660314) gNA := by
  refine CtA_ofF hl0 (by decide +kernel) (Nat.le_of_ble_eq_true rfl) ?_
  refine G_iload_n 1 dr_cJ1_charAt_3b067_0 rfl ?_
  refine G_aload_n 0 dr_cJ1_charAt_3b067_1 rfl ?_
  refine G_klen dr_cJ1_charAt_3b067_2 hbs660313 (G_nam fun z660317 hz660317 => ?_)
  have ez660317 : z660317.toInt = (bs660313.length : Int) := gI_ofN hz660317 nbs660313
  have bz660317 : gB z660317 0 65535 := ⟨by omega, by omega⟩
  refine Gw_callS (As := [.int p660314, .int z660317]) (gV_ok D I) (cp_658623_String_checkIndex l hl0 D I P660310 F660311 p660314 z660317 (gB_w bp660314 (by decide) (by decide)) (gB_w bz660317 (by decide) (by decide)) (by omega)) dr_cJ1_charAt_3b067_3 ⟨wr_3_78, wr_1_21, wr_3_80, by decide, rfl, (Nat.le_of_ble_eq_true rfl), (Nat.le_of_ble_eq_true rfl)⟩ wr_3_79 (show 0 + 0 ≤ 0 by first | omega | decide) (show 0 + 0 ≤ 0 by first | omega | decide) (Nat.le_of_ble_eq_true rfl) (fun r660321 w660322 dc660318 ds660319 hp660320 => ?_) (fun _ _ _ _ _ z => z.elim)
  obtain ⟨rfl, rfl, hdc, hds, ht660323⟩ := hp660320
  change G _ _ _ _ _ _ _ _ _ _ _
  refine G_widen (cs' := 0) (sl' := 0) (by omega) (by omega) ?_
  refine G_aload_n 0 dr_cJ1_charAt_3b067_6 rfl ?_
  refine G_iload_n 1 dr_cJ1_charAt_3b067_7 rfl ?_
  refine G_kbald (f := fun j => bs660313.getD j 0) dr_cJ1_charAt_3b067_8 hbs660313 (gB_inr (by omega) (by omega)) (G_nam fun z660324 hz660324 => ?_)
  have bz660324 : gB z660324 (-2147483648) 2147483647 := gB_any z660324
  refine G_sipush 255 dr_cJ1_charAt_3b067_9 (by decide +kernel) ?_
  refine G_iand dr_cJ1_charAt_3b067_12 (G_nam fun z660325 hz660325 => ?_)
  have bz660325 : gB z660325 0 255 := gB_and hz660325 (gBl (show Int32.toInt 255 = 255 by decide)) (by decide)
  refine G_i2c dr_cJ1_charAt_3b067_13 (G_nam fun z660326 hz660326 => ?_)
  have bz660326 : gB z660326 0 65535 := gB_i2c hz660326
  exact G_zretA FieldType.char dr_cJ1_charAt_3b067_14 rfl (gN_char bz660326) (Nat.le_of_ble_eq_true rfl) (Nat.le_of_ble_eq_true rfl) ⟨z660326, rfl, rfl, (Nat.le_of_ble_eq_true rfl), (Nat.le_of_ble_eq_true rfl), bz660326, (fun R c1 => c1 z660317 z660324 z660325 z660326 ez660317 ht660323 hz660324 hz660325 hz660326)⟩
/- tr_RString_charAt: result -/
def tr_RString_charAt (bs : List Int32) (a1 : Int32) (o1 : Int32) : Prop := ∀ R : (Int32) → Prop,
  (∀ (x1 : Int32), gB x1 0 65535 → tr_RStringLatin1_charAt bs a1 x1 → R x1) →
  R o1
abbrev ky_660298_String_charAt : gKey := (cJ0_charAt_5068e, 2, "java/lang/String", (some FieldType.char), [], "charAt", fun _ _ => True)
def pp_660298_String_charAt (D : va_G) (I : FieldType → ClassId) (P660291 : List Nat) (F660292 : Nat → va_E) (qs660293 : Nat) (qb660294 : Nat) (bs660295 : List Int32) (p660296 : Int32) : Option Value → va_W → Nat → Nat → Prop := fun r w dc ds => ∃ (o660335 : Int32), r = some (.int o660335) ∧ w = va_pl P660291 F660292 ∧ dc ≤ 0 ∧ ds ≤ 0 ∧ gB o660335 0 65535 ∧ tr_RString_charAt bs660295 p660296 o660335
set_option maxRecDepth 100000 in
set_option maxHeartbeats 4000000 in
theorem cp_660298_String_charAt (l : Launch) (hl0 : l.stackTraces = false) (D : va_G) (I : FieldType → ClassId) (P660291 : List Nat) (F660292 : Nat → va_E) (qs660293 : Nat) (qb660294 : Nat) (bs660295 : List Int32) (p660296 : Int32) (hbs660295 : ∀ A s H, (gV D I).2.2.2.1 A s H → gSC qs660293 qb660294 bs660295 A s H) (nbs660295 : (bs660295.length : Int) ≤ 65535) (lbs660295 : gLB bs660295) (bp660296 : gB p660296 0 65535) (x660297 : p660296.toInt < (bs660295.length : Int)) : CtA (gV D I) l yJ0_charAt_5068e cJ0_charAt_5068e 2 (some FieldType.char) 3 64 0 0 [.ref qs660293, .int p660296] (va_pl P660291 F660292) (pp_660298_String_charAt D I P660291 F660292 qs660293 qb660294 bs660295 p660296) gNA := by
  refine CtA_ofF hl0 (by decide +kernel) (Nat.le_of_ble_eq_true rfl) ?_
  refine G_aload_n 0 dr_cJ0_charAt_5068e_0 rfl ?_
  refine Gw_callVk (As := []) (gV_ok D I) (cp_660304_String_isLatin1 l hl0 D I P660291 F660292 qs660293 qb660294 bs660295 hbs660295 nbs660295 lbs660295) dr_cJ0_charAt_5068e_1 ⟨wr_3_71, wr_1_21, wr_3_74, by decide, rfl, (Nat.le_of_ble_eq_true rfl), (Nat.le_of_ble_eq_true rfl)⟩ wr_3_72 wr_3_73 (fun _ _ _ h => (hbs660295 _ _ _ h).1) (show 0 + 0 ≤ 0 by first | omega | decide) (show 0 + 0 ≤ 0 by first | omega | decide) (Nat.le_of_ble_eq_true rfl) (fun r660308 w660309 dc660305 ds660306 hp660307 => ?_) (fun _ _ _ _ _ z => z.elim)
  obtain ⟨rfl, rfl, hdc, hds⟩ := hp660307
  change G _ _ _ _ _ _ _ (.int 1 :: _) _ _ _
  refine G_widen (cs' := 0) (sl' := 0) (by omega) (by omega) ?_
  refine G_if_eq 16 dr_cJ0_charAt_5068e_4 (by decide +kernel) (fun hc => absurd hc (by decide)) (fun _ => ?_)
  refine G_aload_n 0 dr_cJ0_charAt_5068e_7 rfl ?_
  refine G_kget dr_cJ0_charAt_5068e_8 wr_8_182 (fun _ _ _ h => (hbs660295 _ _ _ h).2.2.1) ?_
  refine G_iload_n 1 dr_cJ0_charAt_5068e_11 rfl ?_
  refine Gw_callS (As := [.ref qb660294, .int p660296]) (gV_ok D I) (cp_660316_StringLatin1_charAt l hl0 D I P660291 F660292 qb660294 bs660295 p660296 (fun _ _ _ h => (hbs660295 _ _ _ h).2.2.2) (by omega) lbs660295 (gB_w bp660296 (by decide) (by decide)) (by omega)) dr_cJ0_charAt_5068e_12 ⟨wr_3_75, wr_1_28, wr_3_77, by decide, rfl, (Nat.le_of_ble_eq_true rfl), (Nat.le_of_ble_eq_true rfl)⟩ wr_3_76 (show 0 + 0 ≤ 0 by first | omega | decide) (show 0 + 0 ≤ 0 by first | omega | decide) (Nat.le_of_ble_eq_true rfl) (fun r660331 w660332 dc660328 ds660329 hp660330 => ?_) (fun _ _ _ _ _ z => z.elim)
  obtain ⟨o660333, rfl, rfl, hdc, hds, bo660333, ht660334⟩ := hp660330
  change G _ _ _ _ _ _ _ (.int o660333 :: _) _ _ _
  refine G_widen (cs' := 0) (sl' := 0) (by omega) (by omega) ?_
  exact G_zretA FieldType.char dr_cJ0_charAt_5068e_15 rfl (gN_char bo660333) (Nat.le_of_ble_eq_true rfl) (Nat.le_of_ble_eq_true rfl) ⟨o660333, rfl, rfl, (Nat.le_of_ble_eq_true rfl), (Nat.le_of_ble_eq_true rfl), bo660333, (fun R c1 => c1 o660333 bo660333 ht660334)⟩
/- tl_RStringLatin1_indexOf2_76: l10, l8; out: l8 -/
def tl_RStringLatin1_indexOf2_76 (c1 : Int32) (bs : List Int32) (a2_v : Nat → Int32) (s1 : Int32) (s2 : Int32) (k : Nat) (e1 : Int32) : Prop := ∀ R : (Int32) → (Int32) → Nat → (Int32) → Prop,
  (∀ (l10_2 : Int32) (l8_2 : Int32), gB l10_2 1 16777217 → gB l8_2 (-2147483645) 33554431 → c1.toInt ≤ l8_2.toInt → R l10_2 l8_2 103 l8_2) →
  (∀ (l10_2 : Int32) (l8_2 : Int32) (x1 : Int32) (x2 : Int32), gB l10_2 1 16777217 → gB l8_2 (-2147483645) 33554431 → l8_2.toInt < c1.toInt → x1 = bs.getD l8_2.toNatClampNeg 0 → x2 = a2_v l10_2.toNatClampNeg → gB x2 (-128) 127 → x1.toInt ≠ x2.toInt → R l10_2 l8_2 103 l8_2) →
  (∀ (l10_2 : Int32) (l8_2 : Int32) (x1 : Int32) (x2 : Int32) (x3 : Int32) (x4 : Int32) (k : Nat) (e1 : Int32), gB l10_2 1 16777217 → gB l8_2 (-2147483645) 33554431 → l8_2.toInt < c1.toInt → x1 = bs.getD l8_2.toNatClampNeg 0 → x2 = a2_v l10_2.toNatClampNeg → gB x2 (-128) 127 → x1.toInt = x2.toInt → x3.toInt = l8_2.toInt + 1 → x4.toInt = l10_2.toInt + 1 → R x4 x3 k e1 → R l10_2 l8_2 k e1) →
  R s1 s2 k e1
/- tl_RStringLatin1_indexOf2_76_2: l10, l8; out: l8 -/
def tl_RStringLatin1_indexOf2_76_2 (c1 : Int32) (bs : List Int32) (a2_v : Nat → Int32) (s1 : Int32) (s2 : Int32) (k : Nat) (e1 : Int32) : Prop := ∀ R : (Int32) → (Int32) → Nat → (Int32) → Prop,
  (∀ (l10_2 : Int32) (l8_2 : Int32), gB l10_2 1 16777217 → gB l8_2 (-16777214) 33554431 → c1.toInt ≤ l8_2.toInt → R l10_2 l8_2 103 l8_2) →
  (∀ (l10_2 : Int32) (l8_2 : Int32) (x1 : Int32) (x2 : Int32), gB l10_2 1 16777217 → gB l8_2 (-16777214) 33554431 → l8_2.toInt < c1.toInt → x1 = bs.getD l8_2.toNatClampNeg 0 → x2 = a2_v l10_2.toNatClampNeg → gB x2 (-128) 127 → x1.toInt ≠ x2.toInt → R l10_2 l8_2 103 l8_2) →
  (∀ (l10_2 : Int32) (l8_2 : Int32) (x1 : Int32) (x2 : Int32) (x3 : Int32) (x4 : Int32) (k : Nat) (e1 : Int32), gB l10_2 1 16777217 → gB l8_2 (-16777214) 33554431 → l8_2.toInt < c1.toInt → x1 = bs.getD l8_2.toNatClampNeg 0 → x2 = a2_v l10_2.toNatClampNeg → gB x2 (-128) 127 → x1.toInt = x2.toInt → x3.toInt = l8_2.toInt + 1 → x4.toInt = l10_2.toInt + 1 → R x4 x3 k e1 → R l10_2 l8_2 k e1) →
  R s1 s2 k e1
/- tl_RStringLatin1_indexOf2_76_3: l10, l8; out: l8 -/
def tl_RStringLatin1_indexOf2_76_3 (c1 : Int32) (bs : List Int32) (a2_v : Nat → Int32) (s1 : Int32) (s2 : Int32) (k : Nat) (e1 : Int32) : Prop := ∀ R : (Int32) → (Int32) → Nat → (Int32) → Prop,
  (∀ (l10_2 : Int32) (l8_2 : Int32), gB l10_2 1 16777217 → gB l8_2 (-2147483644) 33554431 → c1.toInt ≤ l8_2.toInt → R l10_2 l8_2 103 l8_2) →
  (∀ (l10_2 : Int32) (l8_2 : Int32) (x1 : Int32) (x2 : Int32), gB l10_2 1 16777217 → gB l8_2 (-2147483644) 33554431 → l8_2.toInt < c1.toInt → x1 = bs.getD l8_2.toNatClampNeg 0 → x2 = a2_v l10_2.toNatClampNeg → gB x2 (-128) 127 → x1.toInt ≠ x2.toInt → R l10_2 l8_2 103 l8_2) →
  (∀ (l10_2 : Int32) (l8_2 : Int32) (x1 : Int32) (x2 : Int32) (x3 : Int32) (x4 : Int32) (k : Nat) (e1 : Int32), gB l10_2 1 16777217 → gB l8_2 (-2147483644) 33554431 → l8_2.toInt < c1.toInt → x1 = bs.getD l8_2.toNatClampNeg 0 → x2 = a2_v l10_2.toNatClampNeg → gB x2 (-128) 127 → x1.toInt = x2.toInt → x3.toInt = l8_2.toInt + 1 → x4.toInt = l10_2.toInt + 1 → R x4 x3 k e1 → R l10_2 l8_2 k e1) →
  R s1 s2 k e1
/- tl_RStringLatin1_indexOf2_30: l7; out: l7 -/
def tl_RStringLatin1_indexOf2_30 (c1 : Int32) (bs : List Int32) (c2 : Int32) (s1 : Int32) (k : Nat) (e1 : Int32) : Prop := ∀ R : (Int32) → Nat → (Int32) → Prop,
  (∀ (l7_2 : Int32) (x1 : Int32), gB l7_2 (-2147483646) 16777215 → x1.toInt = l7_2.toInt + 1 → c1.toInt < x1.toInt → R l7_2 52 x1) →
  (∀ (l7_2 : Int32) (x1 : Int32) (x2 : Int32), gB l7_2 (-2147483646) 16777215 → x1.toInt = l7_2.toInt + 1 → x1.toInt ≤ c1.toInt → x2 = bs.getD x1.toNatClampNeg 0 → x2.toInt = c2.toInt → R l7_2 52 x1) →
  (∀ (l7_2 : Int32) (x1 : Int32) (x2 : Int32) (k : Nat) (e1 : Int32), gB l7_2 (-2147483646) 16777215 → x1.toInt = l7_2.toInt + 1 → x1.toInt ≤ c1.toInt → x2 = bs.getD x1.toNatClampNeg 0 → x2.toInt ≠ c2.toInt → R x1 k e1 → R l7_2 k e1) →
  R s1 k e1
/- tl_RStringLatin1_indexOf2_14: l7; out: l7 -/
def tl_RStringLatin1_indexOf2_14 (c1 : Int32) (bs : List Int32) (c2 : Int32) (a3 : Int32) (a2_v : Nat → Int32) (s1 : Int32) (k : Nat) (e1 : Int32) : Prop := ∀ R : (Int32) → Nat → (Int32) → Prop,
  (∀ (l7_1 : Int32), gB l7_1 (-2147483646) 16777217 → c1.toInt < l7_1.toInt → R l7_1 119 (0 : Int32)) →
  (∀ (l7_1 : Int32) (x1 : Int32) (x2 : Int32) (k : Nat) (e1 : Int32), gB l7_1 (-2147483646) 16777217 → l7_1.toInt ≤ c1.toInt → x1 = bs.getD l7_1.toNatClampNeg 0 → x1.toInt = c2.toInt → c1.toInt < l7_1.toInt → x2.toInt = l7_1.toInt + 1 → R x2 k e1 → R l7_1 k e1) →
  (∀ (l7_1 : Int32) (x1 : Int32) (x2 : Int32) (x3 : Int32) (x4 : Int32) (x5 : Int32) (x6 : Int32) (k : Nat) (e1 : Int32), gB l7_1 (-2147483646) 16777217 → l7_1.toInt ≤ c1.toInt → x1 = bs.getD l7_1.toNatClampNeg 0 → x1.toInt = c2.toInt → l7_1.toInt ≤ c1.toInt → x2.toInt = l7_1.toInt + 1 → x3.toInt = x2.toInt + a3.toInt → x4.toInt = x3.toInt - 1 → tl_RStringLatin1_indexOf2_76 x4 bs a2_v (1 : Int32) x2 103 x5 → x5.toInt ≠ x4.toInt → x6.toInt = l7_1.toInt + 1 → R x6 k e1 → R l7_1 k e1) →
  (∀ (l7_1 : Int32) (x1 : Int32) (x2 : Int32) (x3 : Int32) (x4 : Int32) (x5 : Int32), gB l7_1 (-2147483646) 16777217 → l7_1.toInt ≤ c1.toInt → x1 = bs.getD l7_1.toNatClampNeg 0 → x1.toInt = c2.toInt → l7_1.toInt ≤ c1.toInt → x2.toInt = l7_1.toInt + 1 → x3.toInt = x2.toInt + a3.toInt → x4.toInt = x3.toInt - 1 → tl_RStringLatin1_indexOf2_76 x4 bs a2_v (1 : Int32) x2 103 x5 → x5.toInt = x4.toInt → R l7_1 110 l7_1) →
  (∀ (l7_1 : Int32) (x1 : Int32) (x2 : Int32) (x3 : Int32) (k : Nat) (e1 : Int32), gB l7_1 (-2147483646) 16777217 → l7_1.toInt ≤ c1.toInt → x1 = bs.getD l7_1.toNatClampNeg 0 → x1.toInt ≠ c2.toInt → tl_RStringLatin1_indexOf2_30 c1 bs c2 l7_1 52 x2 → c1.toInt < x2.toInt → x3.toInt = x2.toInt + 1 → R x3 k e1 → R l7_1 k e1) →
  (∀ (l7_1 : Int32) (x1 : Int32) (x2 : Int32) (x3 : Int32) (x4 : Int32) (x5 : Int32) (x6 : Int32) (x7 : Int32) (k : Nat) (e1 : Int32), gB l7_1 (-2147483646) 16777217 → l7_1.toInt ≤ c1.toInt → x1 = bs.getD l7_1.toNatClampNeg 0 → x1.toInt ≠ c2.toInt → tl_RStringLatin1_indexOf2_30 c1 bs c2 l7_1 52 x2 → x2.toInt ≤ c1.toInt → x3.toInt = x2.toInt + 1 → x4.toInt = x3.toInt + a3.toInt → x5.toInt = x4.toInt - 1 → tl_RStringLatin1_indexOf2_76_2 x5 bs a2_v (1 : Int32) x3 103 x6 → x6.toInt ≠ x5.toInt → x7.toInt = x2.toInt + 1 → R x7 k e1 → R l7_1 k e1) →
  (∀ (l7_1 : Int32) (x1 : Int32) (x2 : Int32) (x3 : Int32) (x4 : Int32) (x5 : Int32) (x6 : Int32), gB l7_1 (-2147483646) 16777217 → l7_1.toInt ≤ c1.toInt → x1 = bs.getD l7_1.toNatClampNeg 0 → x1.toInt ≠ c2.toInt → tl_RStringLatin1_indexOf2_30 c1 bs c2 l7_1 52 x2 → x2.toInt ≤ c1.toInt → x3.toInt = x2.toInt + 1 → x4.toInt = x3.toInt + a3.toInt → x5.toInt = x4.toInt - 1 → tl_RStringLatin1_indexOf2_76_2 x5 bs a2_v (1 : Int32) x3 103 x6 → x6.toInt = x5.toInt → R l7_1 110 x2) →
  (∀ (l7_1 : Int32) (x1 : Int32) (x2 : Int32) (x3 : Int32) (x4 : Int32) (x5 : Int32) (x6 : Int32) (x7 : Int32) (k : Nat) (e1 : Int32), gB l7_1 (-2147483646) 16777217 → l7_1.toInt ≤ c1.toInt → x1 = bs.getD l7_1.toNatClampNeg 0 → x1.toInt ≠ c2.toInt → tl_RStringLatin1_indexOf2_30 c1 bs c2 l7_1 52 x2 → x2.toInt ≤ c1.toInt → x3.toInt = x2.toInt + 1 → x4.toInt = x3.toInt + a3.toInt → x5.toInt = x4.toInt - 1 → tl_RStringLatin1_indexOf2_76_3 x5 bs a2_v (1 : Int32) x3 103 x6 → x6.toInt ≠ x5.toInt → x7.toInt = x2.toInt + 1 → R x7 k e1 → R l7_1 k e1) →
  (∀ (l7_1 : Int32) (x1 : Int32) (x2 : Int32) (x3 : Int32) (x4 : Int32) (x5 : Int32) (x6 : Int32), gB l7_1 (-2147483646) 16777217 → l7_1.toInt ≤ c1.toInt → x1 = bs.getD l7_1.toNatClampNeg 0 → x1.toInt ≠ c2.toInt → tl_RStringLatin1_indexOf2_30 c1 bs c2 l7_1 52 x2 → x2.toInt ≤ c1.toInt → x3.toInt = x2.toInt + 1 → x4.toInt = x3.toInt + a3.toInt → x5.toInt = x4.toInt - 1 → tl_RStringLatin1_indexOf2_76_3 x5 bs a2_v (1 : Int32) x3 103 x6 → x6.toInt = x5.toInt → R l7_1 110 x2) →
  R s1 k e1
/- tr_RStringLatin1_indexOf2: result -/
def tr_RStringLatin1_indexOf2 (bs : List Int32) (a1 : Int32) (a3 : Int32) (a2_v : Nat → Int32) (o1 : Int32) : Prop := ∀ R : (Int32) → Prop,
  (∀ (x1 : Int32) (x2 : Int32), x1 = a2_v (0 : Int32).toNatClampNeg → gB x1 (-128) 127 → x2.toInt = a1.toInt - a3.toInt → tl_RStringLatin1_indexOf2_14 x2 bs x1 a3 a2_v (0 : Int32) 119 (0 : Int32) → R (-1 : Int32)) →
  (∀ (x1 : Int32) (x2 : Int32) (x3 : Int32), x1 = a2_v (0 : Int32).toNatClampNeg → gB x1 (-128) 127 → x2.toInt = a1.toInt - a3.toInt → tl_RStringLatin1_indexOf2_14 x2 bs x1 a3 a2_v (0 : Int32) 110 x3 → R x3) →
  R o1
abbrev ky_660396_StringLatin1_indexOf : gKey := (cJ1_indexOf_5af95, 11, "java/lang/StringLatin1", (some FieldType.int), [], "indexOf", fun _ _ => True)
def pp_660396_StringLatin1_indexOf (D : va_G) (I : FieldType → ClassId) (P660384 : List Nat) (F660385 : Nat → va_E) (q660386 : Nat) (qs660387 : Nat) (bs660388 : List Int32) (p660389 : Int32) (p660390 : Int32) (f660391 : Nat → Int32) (n660392 : Nat) : Option Value → va_W → Nat → Nat → Prop := fun r w dc ds => ∃ (o667396 : Int32), r = some (.int o667396) ∧ w = va_pl P660384 F660385 ∧ dc ≤ 0 ∧ ds ≤ 0 ∧ gB o667396 (-2147483646) 16777215 ∧ (o667396.toInt < 0 ∨ o667396.toInt + p660390.toInt ≤ p660389.toInt) ∧ ixP (fun j => bs660388.getD j 0) f660391 o667396 ∧ tr_RStringLatin1_indexOf2 bs660388 p660389 p660390 f660391 o667396
set_option maxRecDepth 100000 in
set_option maxHeartbeats 4000000 in
theorem cp_660396_StringLatin1_indexOf (l : Launch) (hl0 : l.stackTraces = false) (D : va_G) (I : FieldType → ClassId) (P660384 : List Nat) (F660385 : Nat → va_E) (q660386 : Nat) (qs660387 : Nat) (bs660388 : List Int32) (p660389 : Int32) (p660390 : Int32) (f660391 : Nat → Int32) (n660392 : Nat) (hmq660386 : q660386 ∈ P660384) (heq660386 : F660385 q660386 = .inl (I .byte, n660392, .inl f660391)) (hbs660388 : ∀ A s H, (gV D I).2.2.2.1 A s H → va_T .byte qs660387 bs660388.length (fun j => .int (bs660388.getD j 0)) A s H) (nbs660388 : (bs660388.length : Int) ≤ 65535) (lbs660388 : gLB bs660388) (bp660389 : gB p660389 0 16777216) (bp660390 : gB p660390 1 16777216) (bf660391 : gF f660391 (-128) 127) (x660393 : p660389.toInt = (bs660388.length : Int)) (x660394 : p660390.toInt = (n660392 : Int)) (x660395 : ((n660392 : Int) ≤ 16777216)) : CtA (gV D I) l yJ1_indexOf_5af95 cJ1_indexOf_5af95 11 (some FieldType.int) 0 0 0 0 [.ref qs660387, .int p660389, .ref q660386, .int p660390, .int 0] (va_pl P660384 F660385) (pp_660396_StringLatin1_indexOf D I P660384 F660385 q660386 qs660387 bs660388 p660389 p660390 f660391 n660392) gNA := by
  refine CtA_ofF hl0 (by decide +kernel) (Nat.le_of_ble_eq_true rfl) ?_
  refine G_aload_n 2 dr_cJ1_indexOf_5af95_0 rfl ?_
  refine G_iconst 0 dr_cJ1_indexOf_5af95_1 (by decide +kernel) ?_
  refine Gp_bald 1 hmq660386 heq660386 dr_cJ1_indexOf_5af95_2 rfl (gB_inr (x := 0) (show (0 : Int) ≤ Int32.toInt 0 by decide) (show Int32.toInt 0 < _ by rw [show Int32.toInt 0 = 0 by decide]; omega)) (G_nam fun z660397 hz660397 => ?_)
  have bz660397 : gB z660397 (-128) 127 := by rw [hz660397]; exact bf660391 _
  refine G_istore (L' := [(5, .int z660397), (0, .ref qs660387), (1, .int p660389), (2, .ref q660386), (3, .int p660390), (4, .int 0)]) dr_cJ1_indexOf_5af95_3 (Nat.le_of_ble_eq_true rfl) rfl ?_
  refine G_iload_n 2 dr_cJ1_indexOf_5af95_5 rfl ?_
  refine G_iload_n 4 dr_cJ1_indexOf_5af95_6 rfl ?_
  refine G_isub dr_cJ1_indexOf_5af95_7 (G_nam fun z660398 hz660398 => ?_)
  have ez660398 : z660398.toInt = p660389.toInt - p660390.toInt := by rw [gI_sub hz660398 bp660389 bp660390 (by decide) (by decide)]
  have bz660398 : gB z660398 (-16777216) 16777215 := gB_sub (gI_sub hz660398 bp660389 bp660390 (by decide) (by decide)) bp660389 bp660390 (by decide) (by decide)
  refine G_istore (L' := [(6, .int z660398), (5, .int z660397), (0, .ref qs660387), (1, .int p660389), (2, .ref q660386), (3, .int p660390), (4, .int 0)]) dr_cJ1_indexOf_5af95_8 (Nat.le_of_ble_eq_true rfl) rfl ?_
  refine G_iload 6 dr_cJ1_indexOf_5af95_10 rfl ?_
  refine G_istore (L' := [(7, .int 0), (6, .int z660398), (5, .int z660397), (0, .ref qs660387), (1, .int p660389), (2, .ref q660386), (3, .int p660390), (4, .int 0)]) dr_cJ1_indexOf_5af95_12 (Nat.le_of_ble_eq_true rfl) rfl ?_
  have hlp14_666309 : ∀ (n14_666309 : Nat) (g666308 : Int32), gB g666308 (-2147483646) 16777217 → 0 ≤ g666308.toInt → (∀ (k : Nat) (e1 : Int32), tl_RStringLatin1_indexOf2_14 z660398 bs660388 z660397 p660390 f660391 g666308 k e1 → tl_RStringLatin1_indexOf2_14 z660398 bs660388 z660397 p660390 f660391 (0 : Int32) k e1) → ((z660398.toInt : Int) + 2 - g666308.toInt).toNat < n14_666309 → G (gV D I) l (gRm 0 0 0 0) (gMA (gV D I) (pp_660396_StringLatin1_indexOf D I P660384 F660385 q660386 qs660387 bs660388 p660389 p660390 f660391 n660392) gNA 0 0) ky_660396_StringLatin1_indexOf 14 [(7, .int g666308), (6, .int z660398), (5, .int z660397), (0, .ref qs660387), (1, .int p660389), (2, .ref q660386), (3, .int p660390), (4, .int 0)] [] (va_pl P660384 F660385) 0 0 := by
    intro n14_666309
    induction n14_666309 with
    | zero => intro g666308 bg666308 x666309 kt14_666309 hm14_666309; exact absurd hm14_666309 (Nat.not_lt_zero _)
    | succ n14_666309 ih14_666309 =>
      intro g666308 bg666308 x666309 kt14_666309 hm14_666309
      refine G_iload 0 dr_cJ1_indexOf_5af95_14 rfl ?_
      refine G_iload 1 dr_cJ1_indexOf_5af95_16 rfl ?_
      refine G_icmp_gt 119 dr_cJ1_indexOf_5af95_18 (by decide +kernel) (fun hc666310 => ?_) (fun hc666310 => ?_)
      · have r666311 : z660398.toInt < g666308.toInt := gC_lt hc666310
        have bg666308' : gB g666308 (-16777215) 16777217 := ⟨by omega, by omega⟩
        have hx666312 : tl_RStringLatin1_indexOf2_14 z660398 bs660388 z660397 p660390 f660391 (0 : Int32) 119 (0 : Int32) := kt14_666309 119 (0 : Int32) (fun R c1 c2 c3 c4 c5 c6 c7 c8 c9 => c1 g666308 bg666308 r666311)
        refine G_iconst (-1) dr_cJ1_indexOf_5af95_119 (by decide +kernel) ?_
        exact G_iretA dr_cJ1_indexOf_5af95_120 rfl (Nat.le_of_ble_eq_true rfl) (Nat.le_of_ble_eq_true rfl) ⟨(-1), rfl, rfl, (Nat.le_of_ble_eq_true rfl), (Nat.le_of_ble_eq_true rfl), (gB_w (gBl (show Int32.toInt (-1) = (-1) by decide)) (by decide) (by decide)), (by have qa0 : Int32.toInt (-1) = (-1) := (by decide); have qa1 : Int32.toInt 0 = 0 := (by decide); omega), (ixP_n (by decide)), (fun R c1 c2 => c1 z660397 z660398 hz660397 bz660397 ez660398 hx666312)⟩
      · have r666313 : g666308.toInt ≤ z660398.toInt := gC_nlt hc666310
        have bg666308' : gB g666308 (-2147483646) 16777215 := ⟨by omega, by omega⟩
        refine G_aload_n 3 dr_cJ1_indexOf_5af95_21 rfl ?_
        refine G_iload 0 dr_cJ1_indexOf_5af95_22 rfl ?_
        refine G_kbald (f := fun j => bs660388.getD j 0) dr_cJ1_indexOf_5af95_24 hbs660388 (gB_inr (by omega) (by omega)) (G_nam fun z666314 hz666314 => ?_)
        have bz666314 : gB z666314 (-2147483648) 2147483647 := gB_any z666314
        refine G_iload 2 dr_cJ1_indexOf_5af95_25 rfl ?_
        refine G_icmp_eq 52 dr_cJ1_indexOf_5af95_27 (by decide +kernel) (fun hc666315 => ?_) (fun hc666315 => ?_)
        · have r666316 : z666314.toInt = z660397.toInt := gC_eq hc666315
          have bz666314' : gB z666314 (-128) 127 := ⟨by omega, by omega⟩
          refine G_iload 0 dr_cJ1_indexOf_5af95_52 rfl ?_
          refine G_iload 1 dr_cJ1_indexOf_5af95_54 rfl ?_
          refine G_icmp_gt 113 dr_cJ1_indexOf_5af95_56 (by decide +kernel) (fun hc666317 => ?_) (fun hc666317 => ?_)
          · have r666318 : z660398.toInt < g666308.toInt := gC_lt hc666317
            have bz660398' : gB z660398 (-16777216) 16777214 := ⟨by omega, by omega⟩
            have bg666308'' : gB g666308 (-16777215) 16777215 := ⟨by omega, by omega⟩
            obtain ⟨z666319, hz666319⟩ : ∃ z : Int32, z = g666308 + Int32.ofInt 1 := ⟨_, rfl⟩
            have ez666319 : z666319.toInt = g666308.toInt + 1 := gI_inc hz666319 (by decide) bg666308'' (by decide) (by decide)
            have bz666319 : gB z666319 (-16777214) 16777216 := ⟨by omega, by omega⟩
            refine G_iinc (L' := [(7, .int z666319), (6, .int z660398), (5, .int z660397), (0, .ref qs660387), (1, .int p660389), (2, .ref q660386), (3, .int p660390), (4, .int 0)]) z666319 0 dr_cJ1_indexOf_5af95_113 rfl hz666319.symm (Nat.le_of_ble_eq_true rfl) rfl ?_
            refine G_goto 14 dr_cJ1_indexOf_5af95_116 (by decide +kernel) ?_
            exact ih14_666309 z666319 (gB_w bz666319 (by decide) (by decide)) (by have qa0 : Int32.toInt 0 = 0 := (by decide); omega) (fun k e1 ht => kt14_666309 k e1 (fun R c1 c2 c3 c4 c5 c6 c7 c8 c9 => c2 g666308 z666314 z666319 k e1 bg666308 r666313 hz666314 r666316 r666318 ez666319 (ht R c1 c2 c3 c4 c5 c6 c7 c8 c9))) (by have qa0 : Int32.toInt 0 = 0 := (by decide); omega)
          · have r666320 : g666308.toInt ≤ z660398.toInt := gC_nlt hc666317
            refine G_iload 0 dr_cJ1_indexOf_5af95_59 rfl ?_
            refine G_iconst 1 dr_cJ1_indexOf_5af95_61 (by decide +kernel) ?_
            refine G_iadd dr_cJ1_indexOf_5af95_62 (G_nam fun z666321 hz666321 => ?_)
            have ez666321 : z666321.toInt = g666308.toInt + 1 := by rw [gI_add hz666321 bg666308' (gBl (show Int32.toInt 1 = 1 by decide)) (by decide) (by decide), show Int32.toInt 1 = 1 from by decide]
            have bz666321 : gB z666321 (-2147483645) 16777216 := gB_add (gI_add hz666321 bg666308' (gBl (show Int32.toInt 1 = 1 by decide)) (by decide) (by decide)) bg666308' (gBl (show Int32.toInt 1 = 1 by decide)) (by decide) (by decide)
            refine G_istore (L' := [(8, .int z666321), (7, .int g666308), (6, .int z660398), (5, .int z660397), (0, .ref qs660387), (1, .int p660389), (2, .ref q660386), (3, .int p660390), (4, .int 0)]) dr_cJ1_indexOf_5af95_63 (Nat.le_of_ble_eq_true rfl) rfl ?_
            refine G_iload 0 dr_cJ1_indexOf_5af95_65 rfl ?_
            refine G_iload_n 7 dr_cJ1_indexOf_5af95_67 rfl ?_
            refine G_iadd dr_cJ1_indexOf_5af95_68 (G_nam fun z666322 hz666322 => ?_)
            have ez666322 : z666322.toInt = z666321.toInt + p660390.toInt := by rw [gI_add hz666322 bz666321 bp660390 (by decide) (by decide)]
            have bz666322 : gB z666322 (-2147483644) 33554432 := gB_add (gI_add hz666322 bz666321 bp660390 (by decide) (by decide)) bz666321 bp660390 (by decide) (by decide)
            refine G_iconst 1 dr_cJ1_indexOf_5af95_69 (by decide +kernel) ?_
            refine G_isub dr_cJ1_indexOf_5af95_70 (G_nam fun z666323 hz666323 => ?_)
            have ez666323 : z666323.toInt = z666322.toInt - 1 := by rw [gI_sub hz666323 bz666322 (gBl (show Int32.toInt 1 = 1 by decide)) (by decide) (by decide), show Int32.toInt 1 = 1 from by decide]
            have bz666323 : gB z666323 (-2147483645) 33554431 := gB_sub (gI_sub hz666323 bz666322 (gBl (show Int32.toInt 1 = 1 by decide)) (by decide) (by decide)) bz666322 (gBl (show Int32.toInt 1 = 1 by decide)) (by decide) (by decide)
            refine G_istore (L' := [(9, .int z666323), (8, .int z666321), (7, .int g666308), (6, .int z660398), (5, .int z660397), (0, .ref qs660387), (1, .int p660389), (2, .ref q660386), (3, .int p660390), (4, .int 0)]) dr_cJ1_indexOf_5af95_71 (Nat.le_of_ble_eq_true rfl) rfl ?_
            refine G_iconst 1 dr_cJ1_indexOf_5af95_73 (by decide +kernel) ?_
            refine G_istore (L' := [(10, .int 1), (9, .int z666323), (8, .int z666321), (7, .int g666308), (6, .int z660398), (5, .int z660397), (0, .ref qs660387), (1, .int p660389), (2, .ref q660386), (3, .int p660390), (4, .int 0)]) dr_cJ1_indexOf_5af95_74 (Nat.le_of_ble_eq_true rfl) rfl ?_
            have hlp76_666446 : ∀ (n76_666446 : Nat) (g666441 : Int32) (g666442 : Int32), gB g666441 1 16777217 → gB g666442 (-2147483645) 33554431 → 0 ≤ g666442.toInt → g666441.toInt = g666442.toInt - g666308.toInt → 1 ≤ g666441.toInt → g666442.toInt ≤ z666323.toInt → (∀ (k : Nat) (e1 : Int32), tl_RStringLatin1_indexOf2_76 z666323 bs660388 f660391 g666441 g666442 k e1 → tl_RStringLatin1_indexOf2_76 z666323 bs660388 f660391 (1 : Int32) z666321 k e1) → ((z666323.toInt : Int) + 2 - g666442.toInt).toNat < n76_666446 → G (gV D I) l (gRm 0 0 0 0) (gMA (gV D I) (pp_660396_StringLatin1_indexOf D I P660384 F660385 q660386 qs660387 bs660388 p660389 p660390 f660391 n660392) gNA 0 0) ky_660396_StringLatin1_indexOf 76 [(10, .int g666441), (9, .int z666323), (8, .int g666442), (7, .int g666308), (6, .int z660398), (5, .int z660397), (0, .ref qs660387), (1, .int p660389), (2, .ref q660386), (3, .int p660390), (4, .int 0)] [] (va_pl P660384 F660385) 0 0 := by
              intro n76_666446
              induction n76_666446 with
              | zero => intro g666441 g666442 bg666441 bg666442 x666443 x666444 x666445 x666446 kt76_666446 hm76_666446; exact absurd hm76_666446 (Nat.not_lt_zero _)
              | succ n76_666446 ih76_666446 =>
                intro g666441 g666442 bg666441 bg666442 x666443 x666444 x666445 x666446 kt76_666446 hm76_666446
                refine G_iload 2 dr_cJ1_indexOf_5af95_76 rfl ?_
                refine G_iload 1 dr_cJ1_indexOf_5af95_78 rfl ?_
                refine G_icmp_ge 103 dr_cJ1_indexOf_5af95_80 (by decide +kernel) (fun hc666447 => ?_) (fun hc666447 => ?_)
                · have r666448 : z666323.toInt ≤ g666442.toInt := gC_le hc666447
                  have hx666449 : tl_RStringLatin1_indexOf2_76 z666323 bs660388 f660391 (1 : Int32) z666321 103 g666442 := kt76_666446 103 g666442 (fun R c1 c2 c3 => c1 g666441 g666442 bg666441 bg666442 r666448)
                  refine G_iload 2 dr_cJ1_indexOf_5af95_103 rfl ?_
                  refine G_iload 1 dr_cJ1_indexOf_5af95_105 rfl ?_
                  refine G_icmp_ne 113 dr_cJ1_indexOf_5af95_107 (by decide +kernel) (fun hc666450 => ?_) (fun hc666450 => ?_)
                  · have r666451 : g666442.toInt ≠ z666323.toInt := gC_ne hc666450
                    obtain ⟨z666452, hz666452⟩ : ∃ z : Int32, z = g666308 + Int32.ofInt 1 := ⟨_, rfl⟩
                    have ez666452 : z666452.toInt = g666308.toInt + 1 := gI_inc hz666452 (by decide) bg666308' (by decide) (by decide)
                    have bz666452 : gB z666452 (-2147483645) 16777216 := ⟨by omega, by omega⟩
                    refine G_iinc (L' := [(7, .int z666452), (10, .int g666441), (9, .int z666323), (8, .int g666442), (6, .int z660398), (5, .int z660397), (0, .ref qs660387), (1, .int p660389), (2, .ref q660386), (3, .int p660390), (4, .int 0)]) z666452 3 dr_cJ1_indexOf_5af95_113 rfl hz666452.symm (Nat.le_of_ble_eq_true rfl) rfl ?_
                    refine G_goto 14 dr_cJ1_indexOf_5af95_116 (by decide +kernel) ?_
                    refine G_lv (L' := [(7, .int z666452), (6, .int z660398), (5, .int z660397), (0, .ref qs660387), (1, .int p660389), (2, .ref q660386), (3, .int p660390), (4, .int 0)]) [0, 4, 5, 6, 7, 8, 9, 10] rfl ?_
                    exact ih14_666309 z666452 (gB_w bz666452 (by decide) (by decide)) (by have qa0 : Int32.toInt 0 = 0 := (by decide); omega) (fun k e1 ht => kt14_666309 k e1 (fun R c1 c2 c3 c4 c5 c6 c7 c8 c9 => c3 g666308 z666314 z666321 z666322 z666323 g666442 z666452 k e1 bg666308 r666313 hz666314 r666316 r666320 ez666321 ez666322 ez666323 hx666449 r666451 ez666452 (ht R c1 c2 c3 c4 c5 c6 c7 c8 c9))) (by have qa0 : Int32.toInt 0 = 0 := (by decide); omega)
                  · have r666453 : g666442.toInt = z666323.toInt := gC_eq hc666450
                    have hx666454 : tl_RStringLatin1_indexOf2_14 z660398 bs660388 z660397 p660390 f660391 (0 : Int32) 110 g666308 := kt14_666309 110 g666308 (fun R c1 c2 c3 c4 c5 c6 c7 c8 c9 => c4 g666308 z666314 z666321 z666322 z666323 g666442 bg666308 r666313 hz666314 r666316 r666320 ez666321 ez666322 ez666323 hx666449 r666453)
                    refine G_iload 3 dr_cJ1_indexOf_5af95_110 rfl ?_
                    exact G_iretA dr_cJ1_indexOf_5af95_112 rfl (Nat.le_of_ble_eq_true rfl) (Nat.le_of_ble_eq_true rfl) ⟨g666308, rfl, rfl, (Nat.le_of_ble_eq_true rfl), (Nat.le_of_ble_eq_true rfl), bg666308', (by have qa0 : Int32.toInt 0 = 0 := (by decide); omega), (by first | exact ixP_of (by assumption) (by assumption) (by omega) | exact absurd (show False by omega) not_false), (fun R c1 c2 => c2 z660397 z660398 g666308 hz660397 bz660397 ez660398 hx666454)⟩
                · have r666455 : g666442.toInt < z666323.toInt := gC_nle hc666447
                  have bg666442' : gB g666442 (-2147483645) 33554430 := ⟨by omega, by omega⟩
                  have bz666323' : gB z666323 (-2147483644) 33554431 := ⟨by omega, by omega⟩
                  refine G_aload_n 6 dr_cJ1_indexOf_5af95_83 rfl ?_
                  refine G_iload 2 dr_cJ1_indexOf_5af95_84 rfl ?_
                  refine G_kbald (f := fun j => bs660388.getD j 0) dr_cJ1_indexOf_5af95_86 hbs660388 (gB_inr (by omega) (by omega)) (G_nam fun z666456 hz666456 => ?_)
                  have bz666456 : gB z666456 (-2147483648) 2147483647 := gB_any z666456
                  refine G_aload_n 8 dr_cJ1_indexOf_5af95_87 rfl ?_
                  refine G_iload 0 dr_cJ1_indexOf_5af95_88 rfl ?_
                  refine Gp_bald 1 hmq660386 heq660386 dr_cJ1_indexOf_5af95_90 rfl (gB_inr (by omega) (by omega)) (G_nam fun z666457 hz666457 => ?_)
                  have bz666457 : gB z666457 (-128) 127 := by rw [hz666457]; exact bf660391 _
                  refine G_icmp_ne 103 dr_cJ1_indexOf_5af95_91 (by decide +kernel) (fun hc666458 => ?_) (fun hc666458 => ?_)
                  · have r666459 : z666456.toInt ≠ z666457.toInt := gC_ne hc666458
                    have hx666460 : tl_RStringLatin1_indexOf2_76 z666323 bs660388 f660391 (1 : Int32) z666321 103 g666442 := kt76_666446 103 g666442 (fun R c1 c2 c3 => c2 g666441 g666442 z666456 z666457 bg666441 bg666442 r666455 hz666456 hz666457 bz666457 r666459)
                    refine G_iload 2 dr_cJ1_indexOf_5af95_103 rfl ?_
                    refine G_iload 1 dr_cJ1_indexOf_5af95_105 rfl ?_
                    refine G_icmp_ne 113 dr_cJ1_indexOf_5af95_107 (by decide +kernel) (fun hc666461 => ?_) (fun hc666461 => ?_)
                    · have r666462 : g666442.toInt ≠ z666323.toInt := gC_ne hc666461
                      obtain ⟨z666463, hz666463⟩ : ∃ z : Int32, z = g666308 + Int32.ofInt 1 := ⟨_, rfl⟩
                      have ez666463 : z666463.toInt = g666308.toInt + 1 := gI_inc hz666463 (by decide) bg666308' (by decide) (by decide)
                      have bz666463 : gB z666463 (-2147483645) 16777216 := ⟨by omega, by omega⟩
                      refine G_iinc (L' := [(7, .int z666463), (10, .int g666441), (9, .int z666323), (8, .int g666442), (6, .int z660398), (5, .int z660397), (0, .ref qs660387), (1, .int p660389), (2, .ref q660386), (3, .int p660390), (4, .int 0)]) z666463 3 dr_cJ1_indexOf_5af95_113 rfl hz666463.symm (Nat.le_of_ble_eq_true rfl) rfl ?_
                      refine G_goto 14 dr_cJ1_indexOf_5af95_116 (by decide +kernel) ?_
                      refine G_lv (L' := [(7, .int z666463), (6, .int z660398), (5, .int z660397), (0, .ref qs660387), (1, .int p660389), (2, .ref q660386), (3, .int p660390), (4, .int 0)]) [0, 4, 5, 6, 7, 8, 9, 10] rfl ?_
                      exact ih14_666309 z666463 (gB_w bz666463 (by decide) (by decide)) (by have qa0 : Int32.toInt 0 = 0 := (by decide); omega) (fun k e1 ht => kt14_666309 k e1 (fun R c1 c2 c3 c4 c5 c6 c7 c8 c9 => c3 g666308 z666314 z666321 z666322 z666323 g666442 z666463 k e1 bg666308 r666313 hz666314 r666316 r666320 ez666321 ez666322 ez666323 hx666460 r666462 ez666463 (ht R c1 c2 c3 c4 c5 c6 c7 c8 c9))) (by have qa0 : Int32.toInt 0 = 0 := (by decide); omega)
                    · have r666464 : g666442.toInt = z666323.toInt := gC_eq hc666461
                      have bg666442'' : gB g666442 (-2147483644) 33554430 := ⟨by omega, by omega⟩
                      have bz666323'' : gB z666323 (-2147483644) 33554430 := ⟨by omega, by omega⟩
                      have hx666465 : tl_RStringLatin1_indexOf2_14 z660398 bs660388 z660397 p660390 f660391 (0 : Int32) 110 g666308 := kt14_666309 110 g666308 (fun R c1 c2 c3 c4 c5 c6 c7 c8 c9 => c4 g666308 z666314 z666321 z666322 z666323 g666442 bg666308 r666313 hz666314 r666316 r666320 ez666321 ez666322 ez666323 hx666460 r666464)
                      refine G_iload 3 dr_cJ1_indexOf_5af95_110 rfl ?_
                      exact G_iretA dr_cJ1_indexOf_5af95_112 rfl (Nat.le_of_ble_eq_true rfl) (Nat.le_of_ble_eq_true rfl) ⟨g666308, rfl, rfl, (Nat.le_of_ble_eq_true rfl), (Nat.le_of_ble_eq_true rfl), bg666308', (by have qa0 : Int32.toInt 0 = 0 := (by decide); omega), (by first | exact ixP_of (by assumption) (by assumption) (by omega) | exact absurd (show False by omega) not_false), (fun R c1 c2 => c2 z660397 z660398 g666308 hz660397 bz660397 ez660398 hx666465)⟩
                  · have r666466 : z666456.toInt = z666457.toInt := gC_eq hc666458
                    have bz666456' : gB z666456 (-128) 127 := ⟨by omega, by omega⟩
                    obtain ⟨z666467, hz666467⟩ : ∃ z : Int32, z = g666442 + Int32.ofInt 1 := ⟨_, rfl⟩
                    have ez666467 : z666467.toInt = g666442.toInt + 1 := gI_inc hz666467 (by decide) bg666442' (by decide) (by decide)
                    have bz666467 : gB z666467 (-2147483644) 33554431 := ⟨by omega, by omega⟩
                    refine G_iinc (L' := [(8, .int z666467), (10, .int g666441), (9, .int z666323), (7, .int g666308), (6, .int z660398), (5, .int z660397), (0, .ref qs660387), (1, .int p660389), (2, .ref q660386), (3, .int p660390), (4, .int 0)]) z666467 2 dr_cJ1_indexOf_5af95_94 rfl hz666467.symm (Nat.le_of_ble_eq_true rfl) rfl ?_
                    have bg666441' : gB g666441 1 16777216 := ⟨by omega, by omega⟩
                    obtain ⟨z666468, hz666468⟩ : ∃ z : Int32, z = g666441 + Int32.ofInt 1 := ⟨_, rfl⟩
                    have ez666468 : z666468.toInt = g666441.toInt + 1 := gI_inc hz666468 (by decide) bg666441' (by decide) (by decide)
                    have bz666468 : gB z666468 2 16777217 := ⟨by omega, by omega⟩
                    refine G_iinc (L' := [(10, .int z666468), (8, .int z666467), (9, .int z666323), (7, .int g666308), (6, .int z660398), (5, .int z660397), (0, .ref qs660387), (1, .int p660389), (2, .ref q660386), (3, .int p660390), (4, .int 0)]) z666468 1 dr_cJ1_indexOf_5af95_97 rfl hz666468.symm (Nat.le_of_ble_eq_true rfl) rfl ?_
                    refine G_goto 76 dr_cJ1_indexOf_5af95_100 (by decide +kernel) ?_
                    refine G_lv (L' := [(10, .int z666468), (9, .int z666323), (8, .int z666467), (7, .int g666308), (6, .int z660398), (5, .int z660397), (0, .ref qs660387), (1, .int p660389), (2, .ref q660386), (3, .int p660390), (4, .int 0)]) [0, 2, 1, 3, 4, 5, 6, 7, 8, 9, 10] rfl ?_
                    exact ih76_666446 z666468 z666467 (gB_w bz666468 (by decide) (by decide)) (gB_w bz666467 (by decide) (by decide)) (by have qa0 : Int32.toInt 0 = 0 := (by decide); omega) (by have qa0 : Int32.toInt 0 = 0 := (by decide); omega) (by have qa0 : Int32.toInt 0 = 0 := (by decide); omega) (by have qa0 : Int32.toInt 0 = 0 := (by decide); omega) (fun k e1 ht => kt76_666446 k e1 (fun R c1 c2 c3 => c3 g666441 g666442 z666456 z666457 z666467 z666468 k e1 bg666441 bg666442 r666455 hz666456 hz666457 bz666457 r666466 ez666467 ez666468 (ht R c1 c2 c3))) (by have qa0 : Int32.toInt 0 = 0 := (by decide); omega)
            exact hlp76_666446 (((z666323.toInt : Int) + 2 - z666321.toInt).toNat + 1) 1 z666321 (gB_w (gBl (show Int32.toInt 1 = 1 by decide)) (by decide) (by decide)) (gB_w bz666321 (by decide) (by decide)) (by have qa0 : Int32.toInt 0 = 0 := (by decide); have qa1 : Int32.toInt 1 = 1 := (by decide); omega) (by have qa0 : Int32.toInt 0 = 0 := (by decide); have qa1 : Int32.toInt 1 = 1 := (by decide); omega) (by have qa0 : Int32.toInt 0 = 0 := (by decide); have qa1 : Int32.toInt 1 = 1 := (by decide); omega) (by have qa0 : Int32.toInt 0 = 0 := (by decide); have qa1 : Int32.toInt 1 = 1 := (by decide); omega) (fun k e1 ht => ht) (Nat.lt_succ_self _)
        · have r666469 : z666314.toInt ≠ z660397.toInt := gC_ne hc666315
          have hlp30_667081 : ∀ (n30_667081 : Nat) (g667079 : Int32), gB g667079 (-2147483646) 16777215 → 0 ≤ g667079.toInt → g666308.toInt ≤ g667079.toInt → (∀ (k : Nat) (e1 : Int32), tl_RStringLatin1_indexOf2_30 z660398 bs660388 z660397 g667079 k e1 → tl_RStringLatin1_indexOf2_30 z660398 bs660388 z660397 g666308 k e1) → ((z660398.toInt : Int) + 2 - g667079.toInt).toNat < n30_667081 → G (gV D I) l (gRm 0 0 0 0) (gMA (gV D I) (pp_660396_StringLatin1_indexOf D I P660384 F660385 q660386 qs660387 bs660388 p660389 p660390 f660391 n660392) gNA 0 0) ky_660396_StringLatin1_indexOf 30 [(7, .int g667079), (6, .int z660398), (5, .int z660397), (0, .ref qs660387), (1, .int p660389), (2, .ref q660386), (3, .int p660390), (4, .int 0)] [] (va_pl P660384 F660385) 0 0 := by
            intro n30_667081
            induction n30_667081 with
            | zero => intro g667079 bg667079 x667080 x667081 kt30_667081 hm30_667081; exact absurd hm30_667081 (Nat.not_lt_zero _)
            | succ n30_667081 ih30_667081 =>
              intro g667079 bg667079 x667080 x667081 kt30_667081 hm30_667081
              obtain ⟨z667082, hz667082⟩ : ∃ z : Int32, z = g667079 + Int32.ofInt 1 := ⟨_, rfl⟩
              have ez667082 : z667082.toInt = g667079.toInt + 1 := gI_inc hz667082 (by decide) bg667079 (by decide) (by decide)
              have bz667082 : gB z667082 (-2147483645) 16777216 := ⟨by omega, by omega⟩
              refine G_iinc (L' := [(7, .int z667082), (6, .int z660398), (5, .int z660397), (0, .ref qs660387), (1, .int p660389), (2, .ref q660386), (3, .int p660390), (4, .int 0)]) z667082 0 dr_cJ1_indexOf_5af95_30 rfl hz667082.symm (Nat.le_of_ble_eq_true rfl) rfl ?_
              refine G_iload 0 dr_cJ1_indexOf_5af95_33 rfl ?_
              refine G_iload 1 dr_cJ1_indexOf_5af95_35 rfl ?_
              refine G_icmp_gt 52 dr_cJ1_indexOf_5af95_37 (by decide +kernel) (fun hc667083 => ?_) (fun hc667083 => ?_)
              · have r667084 : z660398.toInt < z667082.toInt := gC_lt hc667083
                have bz667082' : gB z667082 (-16777215) 16777216 := ⟨by omega, by omega⟩
                have hx667085 : tl_RStringLatin1_indexOf2_30 z660398 bs660388 z660397 g666308 52 z667082 := kt30_667081 52 z667082 (fun R c1 c2 c3 => c1 g667079 z667082 bg667079 ez667082 r667084)
                refine G_iload 0 dr_cJ1_indexOf_5af95_52 rfl ?_
                refine G_iload 1 dr_cJ1_indexOf_5af95_54 rfl ?_
                refine G_icmp_gt 113 dr_cJ1_indexOf_5af95_56 (by decide +kernel) (fun hc667086 => ?_) (fun hc667086 => ?_)
                · have r667087 : z660398.toInt < z667082.toInt := gC_lt hc667086
                  obtain ⟨z667088, hz667088⟩ : ∃ z : Int32, z = z667082 + Int32.ofInt 1 := ⟨_, rfl⟩
                  have ez667088 : z667088.toInt = z667082.toInt + 1 := gI_inc hz667088 (by decide) bz667082' (by decide) (by decide)
                  have bz667088 : gB z667088 (-16777214) 16777217 := ⟨by omega, by omega⟩
                  refine G_iinc (L' := [(7, .int z667088), (6, .int z660398), (5, .int z660397), (0, .ref qs660387), (1, .int p660389), (2, .ref q660386), (3, .int p660390), (4, .int 0)]) z667088 0 dr_cJ1_indexOf_5af95_113 rfl hz667088.symm (Nat.le_of_ble_eq_true rfl) rfl ?_
                  refine G_goto 14 dr_cJ1_indexOf_5af95_116 (by decide +kernel) ?_
                  exact ih14_666309 z667088 (gB_w bz667088 (by decide) (by decide)) (by have qa0 : Int32.toInt 0 = 0 := (by decide); omega) (fun k e1 ht => kt14_666309 k e1 (fun R c1 c2 c3 c4 c5 c6 c7 c8 c9 => c5 g666308 z666314 z667082 z667088 k e1 bg666308 r666313 hz666314 r666469 hx667085 r667087 ez667088 (ht R c1 c2 c3 c4 c5 c6 c7 c8 c9))) (by have qa0 : Int32.toInt 0 = 0 := (by decide); omega)
                · have r667089 : z667082.toInt ≤ z660398.toInt := gC_nlt hc667086
                  have bz667082'' : gB z667082 (-16777215) 16777215 := ⟨by omega, by omega⟩
                  have bz660398' : gB z660398 (-16777215) 16777215 := ⟨by omega, by omega⟩
                  refine G_iload 0 dr_cJ1_indexOf_5af95_59 rfl ?_
                  refine G_iconst 1 dr_cJ1_indexOf_5af95_61 (by decide +kernel) ?_
                  refine G_iadd dr_cJ1_indexOf_5af95_62 (G_nam fun z667090 hz667090 => ?_)
                  have ez667090 : z667090.toInt = z667082.toInt + 1 := by rw [gI_add hz667090 bz667082'' (gBl (show Int32.toInt 1 = 1 by decide)) (by decide) (by decide), show Int32.toInt 1 = 1 from by decide]
                  have bz667090 : gB z667090 (-16777214) 16777216 := gB_add (gI_add hz667090 bz667082'' (gBl (show Int32.toInt 1 = 1 by decide)) (by decide) (by decide)) bz667082'' (gBl (show Int32.toInt 1 = 1 by decide)) (by decide) (by decide)
                  refine G_istore (L' := [(8, .int z667090), (7, .int z667082), (6, .int z660398), (5, .int z660397), (0, .ref qs660387), (1, .int p660389), (2, .ref q660386), (3, .int p660390), (4, .int 0)]) dr_cJ1_indexOf_5af95_63 (Nat.le_of_ble_eq_true rfl) rfl ?_
                  refine G_iload 0 dr_cJ1_indexOf_5af95_65 rfl ?_
                  refine G_iload_n 7 dr_cJ1_indexOf_5af95_67 rfl ?_
                  refine G_iadd dr_cJ1_indexOf_5af95_68 (G_nam fun z667091 hz667091 => ?_)
                  have ez667091 : z667091.toInt = z667090.toInt + p660390.toInt := by rw [gI_add hz667091 bz667090 bp660390 (by decide) (by decide)]
                  have bz667091 : gB z667091 (-16777213) 33554432 := gB_add (gI_add hz667091 bz667090 bp660390 (by decide) (by decide)) bz667090 bp660390 (by decide) (by decide)
                  refine G_iconst 1 dr_cJ1_indexOf_5af95_69 (by decide +kernel) ?_
                  refine G_isub dr_cJ1_indexOf_5af95_70 (G_nam fun z667092 hz667092 => ?_)
                  have ez667092 : z667092.toInt = z667091.toInt - 1 := by rw [gI_sub hz667092 bz667091 (gBl (show Int32.toInt 1 = 1 by decide)) (by decide) (by decide), show Int32.toInt 1 = 1 from by decide]
                  have bz667092 : gB z667092 (-16777214) 33554431 := gB_sub (gI_sub hz667092 bz667091 (gBl (show Int32.toInt 1 = 1 by decide)) (by decide) (by decide)) bz667091 (gBl (show Int32.toInt 1 = 1 by decide)) (by decide) (by decide)
                  refine G_istore (L' := [(9, .int z667092), (8, .int z667090), (7, .int z667082), (6, .int z660398), (5, .int z660397), (0, .ref qs660387), (1, .int p660389), (2, .ref q660386), (3, .int p660390), (4, .int 0)]) dr_cJ1_indexOf_5af95_71 (Nat.le_of_ble_eq_true rfl) rfl ?_
                  refine G_iconst 1 dr_cJ1_indexOf_5af95_73 (by decide +kernel) ?_
                  refine G_istore (L' := [(10, .int 1), (9, .int z667092), (8, .int z667090), (7, .int z667082), (6, .int z660398), (5, .int z660397), (0, .ref qs660387), (1, .int p660389), (2, .ref q660386), (3, .int p660390), (4, .int 0)]) dr_cJ1_indexOf_5af95_74 (Nat.le_of_ble_eq_true rfl) rfl ?_
                  have hlp76_667215 : ∀ (n76_667215 : Nat) (g667210 : Int32) (g667211 : Int32), gB g667210 1 16777217 → gB g667211 (-16777214) 33554431 → 0 ≤ g667211.toInt → g667210.toInt = g667211.toInt - z667082.toInt → 1 ≤ g667210.toInt → g667211.toInt ≤ z667092.toInt → (∀ (k : Nat) (e1 : Int32), tl_RStringLatin1_indexOf2_76_2 z667092 bs660388 f660391 g667210 g667211 k e1 → tl_RStringLatin1_indexOf2_76_2 z667092 bs660388 f660391 (1 : Int32) z667090 k e1) → ((z667092.toInt : Int) + 2 - g667211.toInt).toNat < n76_667215 → G (gV D I) l (gRm 0 0 0 0) (gMA (gV D I) (pp_660396_StringLatin1_indexOf D I P660384 F660385 q660386 qs660387 bs660388 p660389 p660390 f660391 n660392) gNA 0 0) ky_660396_StringLatin1_indexOf 76 [(10, .int g667210), (9, .int z667092), (8, .int g667211), (7, .int z667082), (6, .int z660398), (5, .int z660397), (0, .ref qs660387), (1, .int p660389), (2, .ref q660386), (3, .int p660390), (4, .int 0)] [] (va_pl P660384 F660385) 0 0 := by
                    intro n76_667215
                    induction n76_667215 with
                    | zero => intro g667210 g667211 bg667210 bg667211 x667212 x667213 x667214 x667215 kt76_667215 hm76_667215; exact absurd hm76_667215 (Nat.not_lt_zero _)
                    | succ n76_667215 ih76_667215 =>
                      intro g667210 g667211 bg667210 bg667211 x667212 x667213 x667214 x667215 kt76_667215 hm76_667215
                      refine G_iload 2 dr_cJ1_indexOf_5af95_76 rfl ?_
                      refine G_iload 1 dr_cJ1_indexOf_5af95_78 rfl ?_
                      refine G_icmp_ge 103 dr_cJ1_indexOf_5af95_80 (by decide +kernel) (fun hc667216 => ?_) (fun hc667216 => ?_)
                      · have r667217 : z667092.toInt ≤ g667211.toInt := gC_le hc667216
                        have hx667218 : tl_RStringLatin1_indexOf2_76_2 z667092 bs660388 f660391 (1 : Int32) z667090 103 g667211 := kt76_667215 103 g667211 (fun R c1 c2 c3 => c1 g667210 g667211 bg667210 bg667211 r667217)
                        refine G_iload 2 dr_cJ1_indexOf_5af95_103 rfl ?_
                        refine G_iload 1 dr_cJ1_indexOf_5af95_105 rfl ?_
                        refine G_icmp_ne 113 dr_cJ1_indexOf_5af95_107 (by decide +kernel) (fun hc667219 => ?_) (fun hc667219 => ?_)
                        · have r667220 : g667211.toInt ≠ z667092.toInt := gC_ne hc667219
                          obtain ⟨z667221, hz667221⟩ : ∃ z : Int32, z = z667082 + Int32.ofInt 1 := ⟨_, rfl⟩
                          have ez667221 : z667221.toInt = z667082.toInt + 1 := gI_inc hz667221 (by decide) bz667082'' (by decide) (by decide)
                          have bz667221 : gB z667221 (-16777214) 16777216 := ⟨by omega, by omega⟩
                          refine G_iinc (L' := [(7, .int z667221), (10, .int g667210), (9, .int z667092), (8, .int g667211), (6, .int z660398), (5, .int z660397), (0, .ref qs660387), (1, .int p660389), (2, .ref q660386), (3, .int p660390), (4, .int 0)]) z667221 3 dr_cJ1_indexOf_5af95_113 rfl hz667221.symm (Nat.le_of_ble_eq_true rfl) rfl ?_
                          refine G_goto 14 dr_cJ1_indexOf_5af95_116 (by decide +kernel) ?_
                          refine G_lv (L' := [(7, .int z667221), (6, .int z660398), (5, .int z660397), (0, .ref qs660387), (1, .int p660389), (2, .ref q660386), (3, .int p660390), (4, .int 0)]) [0, 4, 5, 6, 7, 8, 9, 10] rfl ?_
                          exact ih14_666309 z667221 (gB_w bz667221 (by decide) (by decide)) (by have qa0 : Int32.toInt 0 = 0 := (by decide); omega) (fun k e1 ht => kt14_666309 k e1 (fun R c1 c2 c3 c4 c5 c6 c7 c8 c9 => c6 g666308 z666314 z667082 z667090 z667091 z667092 g667211 z667221 k e1 bg666308 r666313 hz666314 r666469 hx667085 r667089 ez667090 ez667091 ez667092 hx667218 r667220 ez667221 (ht R c1 c2 c3 c4 c5 c6 c7 c8 c9))) (by have qa0 : Int32.toInt 0 = 0 := (by decide); omega)
                        · have r667222 : g667211.toInt = z667092.toInt := gC_eq hc667219
                          have hx667223 : tl_RStringLatin1_indexOf2_14 z660398 bs660388 z660397 p660390 f660391 (0 : Int32) 110 z667082 := kt14_666309 110 z667082 (fun R c1 c2 c3 c4 c5 c6 c7 c8 c9 => c7 g666308 z666314 z667082 z667090 z667091 z667092 g667211 bg666308 r666313 hz666314 r666469 hx667085 r667089 ez667090 ez667091 ez667092 hx667218 r667222)
                          refine G_iload 3 dr_cJ1_indexOf_5af95_110 rfl ?_
                          exact G_iretA dr_cJ1_indexOf_5af95_112 rfl (Nat.le_of_ble_eq_true rfl) (Nat.le_of_ble_eq_true rfl) ⟨z667082, rfl, rfl, (Nat.le_of_ble_eq_true rfl), (Nat.le_of_ble_eq_true rfl), (gB_w bz667082'' (by decide) (by decide)), (by have qa0 : Int32.toInt 0 = 0 := (by decide); omega), (by first | exact ixP_of (by assumption) (by assumption) (by omega) | exact absurd (show False by omega) not_false), (fun R c1 c2 => c2 z660397 z660398 z667082 hz660397 bz660397 ez660398 hx667223)⟩
                      · have r667224 : g667211.toInt < z667092.toInt := gC_nle hc667216
                        have bg667211' : gB g667211 (-16777214) 33554430 := ⟨by omega, by omega⟩
                        have bz667092' : gB z667092 (-16777213) 33554431 := ⟨by omega, by omega⟩
                        refine G_aload_n 6 dr_cJ1_indexOf_5af95_83 rfl ?_
                        refine G_iload 2 dr_cJ1_indexOf_5af95_84 rfl ?_
                        refine G_kbald (f := fun j => bs660388.getD j 0) dr_cJ1_indexOf_5af95_86 hbs660388 (gB_inr (by omega) (by omega)) (G_nam fun z667225 hz667225 => ?_)
                        have bz667225 : gB z667225 (-2147483648) 2147483647 := gB_any z667225
                        refine G_aload_n 8 dr_cJ1_indexOf_5af95_87 rfl ?_
                        refine G_iload 0 dr_cJ1_indexOf_5af95_88 rfl ?_
                        refine Gp_bald 1 hmq660386 heq660386 dr_cJ1_indexOf_5af95_90 rfl (gB_inr (by omega) (by omega)) (G_nam fun z667226 hz667226 => ?_)
                        have bz667226 : gB z667226 (-128) 127 := by rw [hz667226]; exact bf660391 _
                        refine G_icmp_ne 103 dr_cJ1_indexOf_5af95_91 (by decide +kernel) (fun hc667227 => ?_) (fun hc667227 => ?_)
                        · have r667228 : z667225.toInt ≠ z667226.toInt := gC_ne hc667227
                          have hx667229 : tl_RStringLatin1_indexOf2_76_2 z667092 bs660388 f660391 (1 : Int32) z667090 103 g667211 := kt76_667215 103 g667211 (fun R c1 c2 c3 => c2 g667210 g667211 z667225 z667226 bg667210 bg667211 r667224 hz667225 hz667226 bz667226 r667228)
                          refine G_iload 2 dr_cJ1_indexOf_5af95_103 rfl ?_
                          refine G_iload 1 dr_cJ1_indexOf_5af95_105 rfl ?_
                          refine G_icmp_ne 113 dr_cJ1_indexOf_5af95_107 (by decide +kernel) (fun hc667230 => ?_) (fun hc667230 => ?_)
                          · have r667231 : g667211.toInt ≠ z667092.toInt := gC_ne hc667230
                            obtain ⟨z667232, hz667232⟩ : ∃ z : Int32, z = z667082 + Int32.ofInt 1 := ⟨_, rfl⟩
                            have ez667232 : z667232.toInt = z667082.toInt + 1 := gI_inc hz667232 (by decide) bz667082'' (by decide) (by decide)
                            have bz667232 : gB z667232 (-16777214) 16777216 := ⟨by omega, by omega⟩
                            refine G_iinc (L' := [(7, .int z667232), (10, .int g667210), (9, .int z667092), (8, .int g667211), (6, .int z660398), (5, .int z660397), (0, .ref qs660387), (1, .int p660389), (2, .ref q660386), (3, .int p660390), (4, .int 0)]) z667232 3 dr_cJ1_indexOf_5af95_113 rfl hz667232.symm (Nat.le_of_ble_eq_true rfl) rfl ?_
                            refine G_goto 14 dr_cJ1_indexOf_5af95_116 (by decide +kernel) ?_
                            refine G_lv (L' := [(7, .int z667232), (6, .int z660398), (5, .int z660397), (0, .ref qs660387), (1, .int p660389), (2, .ref q660386), (3, .int p660390), (4, .int 0)]) [0, 4, 5, 6, 7, 8, 9, 10] rfl ?_
                            exact ih14_666309 z667232 (gB_w bz667232 (by decide) (by decide)) (by have qa0 : Int32.toInt 0 = 0 := (by decide); omega) (fun k e1 ht => kt14_666309 k e1 (fun R c1 c2 c3 c4 c5 c6 c7 c8 c9 => c6 g666308 z666314 z667082 z667090 z667091 z667092 g667211 z667232 k e1 bg666308 r666313 hz666314 r666469 hx667085 r667089 ez667090 ez667091 ez667092 hx667229 r667231 ez667232 (ht R c1 c2 c3 c4 c5 c6 c7 c8 c9))) (by have qa0 : Int32.toInt 0 = 0 := (by decide); omega)
                          · have r667233 : g667211.toInt = z667092.toInt := gC_eq hc667230
                            have bg667211'' : gB g667211 (-16777213) 33554430 := ⟨by omega, by omega⟩
                            have bz667092'' : gB z667092 (-16777213) 33554430 := ⟨by omega, by omega⟩
                            have hx667234 : tl_RStringLatin1_indexOf2_14 z660398 bs660388 z660397 p660390 f660391 (0 : Int32) 110 z667082 := kt14_666309 110 z667082 (fun R c1 c2 c3 c4 c5 c6 c7 c8 c9 => c7 g666308 z666314 z667082 z667090 z667091 z667092 g667211 bg666308 r666313 hz666314 r666469 hx667085 r667089 ez667090 ez667091 ez667092 hx667229 r667233)
                            refine G_iload 3 dr_cJ1_indexOf_5af95_110 rfl ?_
                            exact G_iretA dr_cJ1_indexOf_5af95_112 rfl (Nat.le_of_ble_eq_true rfl) (Nat.le_of_ble_eq_true rfl) ⟨z667082, rfl, rfl, (Nat.le_of_ble_eq_true rfl), (Nat.le_of_ble_eq_true rfl), (gB_w bz667082'' (by decide) (by decide)), (by have qa0 : Int32.toInt 0 = 0 := (by decide); omega), (by first | exact ixP_of (by assumption) (by assumption) (by omega) | exact absurd (show False by omega) not_false), (fun R c1 c2 => c2 z660397 z660398 z667082 hz660397 bz660397 ez660398 hx667234)⟩
                        · have r667235 : z667225.toInt = z667226.toInt := gC_eq hc667227
                          have bz667225' : gB z667225 (-128) 127 := ⟨by omega, by omega⟩
                          obtain ⟨z667236, hz667236⟩ : ∃ z : Int32, z = g667211 + Int32.ofInt 1 := ⟨_, rfl⟩
                          have ez667236 : z667236.toInt = g667211.toInt + 1 := gI_inc hz667236 (by decide) bg667211' (by decide) (by decide)
                          have bz667236 : gB z667236 (-16777213) 33554431 := ⟨by omega, by omega⟩
                          refine G_iinc (L' := [(8, .int z667236), (10, .int g667210), (9, .int z667092), (7, .int z667082), (6, .int z660398), (5, .int z660397), (0, .ref qs660387), (1, .int p660389), (2, .ref q660386), (3, .int p660390), (4, .int 0)]) z667236 2 dr_cJ1_indexOf_5af95_94 rfl hz667236.symm (Nat.le_of_ble_eq_true rfl) rfl ?_
                          have bg667210' : gB g667210 1 16777216 := ⟨by omega, by omega⟩
                          obtain ⟨z667237, hz667237⟩ : ∃ z : Int32, z = g667210 + Int32.ofInt 1 := ⟨_, rfl⟩
                          have ez667237 : z667237.toInt = g667210.toInt + 1 := gI_inc hz667237 (by decide) bg667210' (by decide) (by decide)
                          have bz667237 : gB z667237 2 16777217 := ⟨by omega, by omega⟩
                          refine G_iinc (L' := [(10, .int z667237), (8, .int z667236), (9, .int z667092), (7, .int z667082), (6, .int z660398), (5, .int z660397), (0, .ref qs660387), (1, .int p660389), (2, .ref q660386), (3, .int p660390), (4, .int 0)]) z667237 1 dr_cJ1_indexOf_5af95_97 rfl hz667237.symm (Nat.le_of_ble_eq_true rfl) rfl ?_
                          refine G_goto 76 dr_cJ1_indexOf_5af95_100 (by decide +kernel) ?_
                          refine G_lv (L' := [(10, .int z667237), (9, .int z667092), (8, .int z667236), (7, .int z667082), (6, .int z660398), (5, .int z660397), (0, .ref qs660387), (1, .int p660389), (2, .ref q660386), (3, .int p660390), (4, .int 0)]) [0, 2, 1, 3, 4, 5, 6, 7, 8, 9, 10] rfl ?_
                          exact ih76_667215 z667237 z667236 (gB_w bz667237 (by decide) (by decide)) (gB_w bz667236 (by decide) (by decide)) (by have qa0 : Int32.toInt 0 = 0 := (by decide); omega) (by have qa0 : Int32.toInt 0 = 0 := (by decide); omega) (by have qa0 : Int32.toInt 0 = 0 := (by decide); omega) (by have qa0 : Int32.toInt 0 = 0 := (by decide); omega) (fun k e1 ht => kt76_667215 k e1 (fun R c1 c2 c3 => c3 g667210 g667211 z667225 z667226 z667236 z667237 k e1 bg667210 bg667211 r667224 hz667225 hz667226 bz667226 r667235 ez667236 ez667237 (ht R c1 c2 c3))) (by have qa0 : Int32.toInt 0 = 0 := (by decide); omega)
                  exact hlp76_667215 (((z667092.toInt : Int) + 2 - z667090.toInt).toNat + 1) 1 z667090 (gB_w (gBl (show Int32.toInt 1 = 1 by decide)) (by decide) (by decide)) (gB_w bz667090 (by decide) (by decide)) (by have qa0 : Int32.toInt 0 = 0 := (by decide); have qa1 : Int32.toInt 1 = 1 := (by decide); omega) (by have qa0 : Int32.toInt 0 = 0 := (by decide); have qa1 : Int32.toInt 1 = 1 := (by decide); omega) (by have qa0 : Int32.toInt 0 = 0 := (by decide); have qa1 : Int32.toInt 1 = 1 := (by decide); omega) (by have qa0 : Int32.toInt 0 = 0 := (by decide); have qa1 : Int32.toInt 1 = 1 := (by decide); omega) (fun k e1 ht => ht) (Nat.lt_succ_self _)
              · have r667238 : z667082.toInt ≤ z660398.toInt := gC_nlt hc667083
                have bz667082' : gB z667082 (-2147483645) 16777215 := ⟨by omega, by omega⟩
                refine G_aload_n 3 dr_cJ1_indexOf_5af95_40 rfl ?_
                refine G_iload 0 dr_cJ1_indexOf_5af95_41 rfl ?_
                refine G_kbald (f := fun j => bs660388.getD j 0) dr_cJ1_indexOf_5af95_43 hbs660388 (gB_inr (by omega) (by omega)) (G_nam fun z667239 hz667239 => ?_)
                have bz667239 : gB z667239 (-2147483648) 2147483647 := gB_any z667239
                refine G_iload 2 dr_cJ1_indexOf_5af95_44 rfl ?_
                refine G_icmp_eq 52 dr_cJ1_indexOf_5af95_46 (by decide +kernel) (fun hc667240 => ?_) (fun hc667240 => ?_)
                · have r667241 : z667239.toInt = z660397.toInt := gC_eq hc667240
                  have bz667239' : gB z667239 (-128) 127 := ⟨by omega, by omega⟩
                  have hx667242 : tl_RStringLatin1_indexOf2_30 z660398 bs660388 z660397 g666308 52 z667082 := kt30_667081 52 z667082 (fun R c1 c2 c3 => c2 g667079 z667082 z667239 bg667079 ez667082 r667238 hz667239 r667241)
                  refine G_iload 0 dr_cJ1_indexOf_5af95_52 rfl ?_
                  refine G_iload 1 dr_cJ1_indexOf_5af95_54 rfl ?_
                  refine G_icmp_gt 113 dr_cJ1_indexOf_5af95_56 (by decide +kernel) (fun hc667243 => ?_) (fun hc667243 => ?_)
                  · have r667244 : z660398.toInt < z667082.toInt := gC_lt hc667243
                    have bz660398' : gB z660398 (-16777216) 16777214 := ⟨by omega, by omega⟩
                    have bz667082'' : gB z667082 (-16777215) 16777215 := ⟨by omega, by omega⟩
                    obtain ⟨z667245, hz667245⟩ : ∃ z : Int32, z = z667082 + Int32.ofInt 1 := ⟨_, rfl⟩
                    have ez667245 : z667245.toInt = z667082.toInt + 1 := gI_inc hz667245 (by decide) bz667082'' (by decide) (by decide)
                    have bz667245 : gB z667245 (-16777214) 16777216 := ⟨by omega, by omega⟩
                    refine G_iinc (L' := [(7, .int z667245), (6, .int z660398), (5, .int z660397), (0, .ref qs660387), (1, .int p660389), (2, .ref q660386), (3, .int p660390), (4, .int 0)]) z667245 0 dr_cJ1_indexOf_5af95_113 rfl hz667245.symm (Nat.le_of_ble_eq_true rfl) rfl ?_
                    refine G_goto 14 dr_cJ1_indexOf_5af95_116 (by decide +kernel) ?_
                    exact ih14_666309 z667245 (gB_w bz667245 (by decide) (by decide)) (by have qa0 : Int32.toInt 0 = 0 := (by decide); omega) (fun k e1 ht => kt14_666309 k e1 (fun R c1 c2 c3 c4 c5 c6 c7 c8 c9 => c5 g666308 z666314 z667082 z667245 k e1 bg666308 r666313 hz666314 r666469 hx667242 r667244 ez667245 (ht R c1 c2 c3 c4 c5 c6 c7 c8 c9))) (by have qa0 : Int32.toInt 0 = 0 := (by decide); omega)
                  · have r667246 : z667082.toInt ≤ z660398.toInt := gC_nlt hc667243
                    refine G_iload 0 dr_cJ1_indexOf_5af95_59 rfl ?_
                    refine G_iconst 1 dr_cJ1_indexOf_5af95_61 (by decide +kernel) ?_
                    refine G_iadd dr_cJ1_indexOf_5af95_62 (G_nam fun z667247 hz667247 => ?_)
                    have ez667247 : z667247.toInt = z667082.toInt + 1 := by rw [gI_add hz667247 bz667082' (gBl (show Int32.toInt 1 = 1 by decide)) (by decide) (by decide), show Int32.toInt 1 = 1 from by decide]
                    have bz667247 : gB z667247 (-2147483644) 16777216 := gB_add (gI_add hz667247 bz667082' (gBl (show Int32.toInt 1 = 1 by decide)) (by decide) (by decide)) bz667082' (gBl (show Int32.toInt 1 = 1 by decide)) (by decide) (by decide)
                    refine G_istore (L' := [(8, .int z667247), (7, .int z667082), (6, .int z660398), (5, .int z660397), (0, .ref qs660387), (1, .int p660389), (2, .ref q660386), (3, .int p660390), (4, .int 0)]) dr_cJ1_indexOf_5af95_63 (Nat.le_of_ble_eq_true rfl) rfl ?_
                    refine G_iload 0 dr_cJ1_indexOf_5af95_65 rfl ?_
                    refine G_iload_n 7 dr_cJ1_indexOf_5af95_67 rfl ?_
                    refine G_iadd dr_cJ1_indexOf_5af95_68 (G_nam fun z667248 hz667248 => ?_)
                    have ez667248 : z667248.toInt = z667247.toInt + p660390.toInt := by rw [gI_add hz667248 bz667247 bp660390 (by decide) (by decide)]
                    have bz667248 : gB z667248 (-2147483643) 33554432 := gB_add (gI_add hz667248 bz667247 bp660390 (by decide) (by decide)) bz667247 bp660390 (by decide) (by decide)
                    refine G_iconst 1 dr_cJ1_indexOf_5af95_69 (by decide +kernel) ?_
                    refine G_isub dr_cJ1_indexOf_5af95_70 (G_nam fun z667249 hz667249 => ?_)
                    have ez667249 : z667249.toInt = z667248.toInt - 1 := by rw [gI_sub hz667249 bz667248 (gBl (show Int32.toInt 1 = 1 by decide)) (by decide) (by decide), show Int32.toInt 1 = 1 from by decide]
                    have bz667249 : gB z667249 (-2147483644) 33554431 := gB_sub (gI_sub hz667249 bz667248 (gBl (show Int32.toInt 1 = 1 by decide)) (by decide) (by decide)) bz667248 (gBl (show Int32.toInt 1 = 1 by decide)) (by decide) (by decide)
                    refine G_istore (L' := [(9, .int z667249), (8, .int z667247), (7, .int z667082), (6, .int z660398), (5, .int z660397), (0, .ref qs660387), (1, .int p660389), (2, .ref q660386), (3, .int p660390), (4, .int 0)]) dr_cJ1_indexOf_5af95_71 (Nat.le_of_ble_eq_true rfl) rfl ?_
                    refine G_iconst 1 dr_cJ1_indexOf_5af95_73 (by decide +kernel) ?_
                    refine G_istore (L' := [(10, .int 1), (9, .int z667249), (8, .int z667247), (7, .int z667082), (6, .int z660398), (5, .int z660397), (0, .ref qs660387), (1, .int p660389), (2, .ref q660386), (3, .int p660390), (4, .int 0)]) dr_cJ1_indexOf_5af95_74 (Nat.le_of_ble_eq_true rfl) rfl ?_
                    have hlp76_667372 : ∀ (n76_667372 : Nat) (g667367 : Int32) (g667368 : Int32), gB g667367 1 16777217 → gB g667368 (-2147483644) 33554431 → 0 ≤ g667368.toInt → g667367.toInt = g667368.toInt - z667082.toInt → 1 ≤ g667367.toInt → g667368.toInt ≤ z667249.toInt → (∀ (k : Nat) (e1 : Int32), tl_RStringLatin1_indexOf2_76_3 z667249 bs660388 f660391 g667367 g667368 k e1 → tl_RStringLatin1_indexOf2_76_3 z667249 bs660388 f660391 (1 : Int32) z667247 k e1) → ((z667249.toInt : Int) + 2 - g667368.toInt).toNat < n76_667372 → G (gV D I) l (gRm 0 0 0 0) (gMA (gV D I) (pp_660396_StringLatin1_indexOf D I P660384 F660385 q660386 qs660387 bs660388 p660389 p660390 f660391 n660392) gNA 0 0) ky_660396_StringLatin1_indexOf 76 [(10, .int g667367), (9, .int z667249), (8, .int g667368), (7, .int z667082), (6, .int z660398), (5, .int z660397), (0, .ref qs660387), (1, .int p660389), (2, .ref q660386), (3, .int p660390), (4, .int 0)] [] (va_pl P660384 F660385) 0 0 := by
                      intro n76_667372
                      induction n76_667372 with
                      | zero => intro g667367 g667368 bg667367 bg667368 x667369 x667370 x667371 x667372 kt76_667372 hm76_667372; exact absurd hm76_667372 (Nat.not_lt_zero _)
                      | succ n76_667372 ih76_667372 =>
                        intro g667367 g667368 bg667367 bg667368 x667369 x667370 x667371 x667372 kt76_667372 hm76_667372
                        refine G_iload 2 dr_cJ1_indexOf_5af95_76 rfl ?_
                        refine G_iload 1 dr_cJ1_indexOf_5af95_78 rfl ?_
                        refine G_icmp_ge 103 dr_cJ1_indexOf_5af95_80 (by decide +kernel) (fun hc667373 => ?_) (fun hc667373 => ?_)
                        · have r667374 : z667249.toInt ≤ g667368.toInt := gC_le hc667373
                          have hx667375 : tl_RStringLatin1_indexOf2_76_3 z667249 bs660388 f660391 (1 : Int32) z667247 103 g667368 := kt76_667372 103 g667368 (fun R c1 c2 c3 => c1 g667367 g667368 bg667367 bg667368 r667374)
                          refine G_iload 2 dr_cJ1_indexOf_5af95_103 rfl ?_
                          refine G_iload 1 dr_cJ1_indexOf_5af95_105 rfl ?_
                          refine G_icmp_ne 113 dr_cJ1_indexOf_5af95_107 (by decide +kernel) (fun hc667376 => ?_) (fun hc667376 => ?_)
                          · have r667377 : g667368.toInt ≠ z667249.toInt := gC_ne hc667376
                            obtain ⟨z667378, hz667378⟩ : ∃ z : Int32, z = z667082 + Int32.ofInt 1 := ⟨_, rfl⟩
                            have ez667378 : z667378.toInt = z667082.toInt + 1 := gI_inc hz667378 (by decide) bz667082' (by decide) (by decide)
                            have bz667378 : gB z667378 (-2147483644) 16777216 := ⟨by omega, by omega⟩
                            refine G_iinc (L' := [(7, .int z667378), (10, .int g667367), (9, .int z667249), (8, .int g667368), (6, .int z660398), (5, .int z660397), (0, .ref qs660387), (1, .int p660389), (2, .ref q660386), (3, .int p660390), (4, .int 0)]) z667378 3 dr_cJ1_indexOf_5af95_113 rfl hz667378.symm (Nat.le_of_ble_eq_true rfl) rfl ?_
                            refine G_goto 14 dr_cJ1_indexOf_5af95_116 (by decide +kernel) ?_
                            refine G_lv (L' := [(7, .int z667378), (6, .int z660398), (5, .int z660397), (0, .ref qs660387), (1, .int p660389), (2, .ref q660386), (3, .int p660390), (4, .int 0)]) [0, 4, 5, 6, 7, 8, 9, 10] rfl ?_
                            exact ih14_666309 z667378 (gB_w bz667378 (by decide) (by decide)) (by have qa0 : Int32.toInt 0 = 0 := (by decide); omega) (fun k e1 ht => kt14_666309 k e1 (fun R c1 c2 c3 c4 c5 c6 c7 c8 c9 => c8 g666308 z666314 z667082 z667247 z667248 z667249 g667368 z667378 k e1 bg666308 r666313 hz666314 r666469 hx667242 r667246 ez667247 ez667248 ez667249 hx667375 r667377 ez667378 (ht R c1 c2 c3 c4 c5 c6 c7 c8 c9))) (by have qa0 : Int32.toInt 0 = 0 := (by decide); omega)
                          · have r667379 : g667368.toInt = z667249.toInt := gC_eq hc667376
                            have hx667380 : tl_RStringLatin1_indexOf2_14 z660398 bs660388 z660397 p660390 f660391 (0 : Int32) 110 z667082 := kt14_666309 110 z667082 (fun R c1 c2 c3 c4 c5 c6 c7 c8 c9 => c9 g666308 z666314 z667082 z667247 z667248 z667249 g667368 bg666308 r666313 hz666314 r666469 hx667242 r667246 ez667247 ez667248 ez667249 hx667375 r667379)
                            refine G_iload 3 dr_cJ1_indexOf_5af95_110 rfl ?_
                            exact G_iretA dr_cJ1_indexOf_5af95_112 rfl (Nat.le_of_ble_eq_true rfl) (Nat.le_of_ble_eq_true rfl) ⟨z667082, rfl, rfl, (Nat.le_of_ble_eq_true rfl), (Nat.le_of_ble_eq_true rfl), (gB_w bz667082' (by decide) (by decide)), (by have qa0 : Int32.toInt 0 = 0 := (by decide); omega), (by first | exact ixP_of (by assumption) (by assumption) (by omega) | exact absurd (show False by omega) not_false), (fun R c1 c2 => c2 z660397 z660398 z667082 hz660397 bz660397 ez660398 hx667380)⟩
                        · have r667381 : g667368.toInt < z667249.toInt := gC_nle hc667373
                          have bg667368' : gB g667368 (-2147483644) 33554430 := ⟨by omega, by omega⟩
                          have bz667249' : gB z667249 (-2147483643) 33554431 := ⟨by omega, by omega⟩
                          refine G_aload_n 6 dr_cJ1_indexOf_5af95_83 rfl ?_
                          refine G_iload 2 dr_cJ1_indexOf_5af95_84 rfl ?_
                          refine G_kbald (f := fun j => bs660388.getD j 0) dr_cJ1_indexOf_5af95_86 hbs660388 (gB_inr (by omega) (by omega)) (G_nam fun z667382 hz667382 => ?_)
                          have bz667382 : gB z667382 (-2147483648) 2147483647 := gB_any z667382
                          refine G_aload_n 8 dr_cJ1_indexOf_5af95_87 rfl ?_
                          refine G_iload 0 dr_cJ1_indexOf_5af95_88 rfl ?_
                          refine Gp_bald 1 hmq660386 heq660386 dr_cJ1_indexOf_5af95_90 rfl (gB_inr (by omega) (by omega)) (G_nam fun z667383 hz667383 => ?_)
                          have bz667383 : gB z667383 (-128) 127 := by rw [hz667383]; exact bf660391 _
                          refine G_icmp_ne 103 dr_cJ1_indexOf_5af95_91 (by decide +kernel) (fun hc667384 => ?_) (fun hc667384 => ?_)
                          · have r667385 : z667382.toInt ≠ z667383.toInt := gC_ne hc667384
                            have hx667386 : tl_RStringLatin1_indexOf2_76_3 z667249 bs660388 f660391 (1 : Int32) z667247 103 g667368 := kt76_667372 103 g667368 (fun R c1 c2 c3 => c2 g667367 g667368 z667382 z667383 bg667367 bg667368 r667381 hz667382 hz667383 bz667383 r667385)
                            refine G_iload 2 dr_cJ1_indexOf_5af95_103 rfl ?_
                            refine G_iload 1 dr_cJ1_indexOf_5af95_105 rfl ?_
                            refine G_icmp_ne 113 dr_cJ1_indexOf_5af95_107 (by decide +kernel) (fun hc667387 => ?_) (fun hc667387 => ?_)
                            · have r667388 : g667368.toInt ≠ z667249.toInt := gC_ne hc667387
                              obtain ⟨z667389, hz667389⟩ : ∃ z : Int32, z = z667082 + Int32.ofInt 1 := ⟨_, rfl⟩
                              have ez667389 : z667389.toInt = z667082.toInt + 1 := gI_inc hz667389 (by decide) bz667082' (by decide) (by decide)
                              have bz667389 : gB z667389 (-2147483644) 16777216 := ⟨by omega, by omega⟩
                              refine G_iinc (L' := [(7, .int z667389), (10, .int g667367), (9, .int z667249), (8, .int g667368), (6, .int z660398), (5, .int z660397), (0, .ref qs660387), (1, .int p660389), (2, .ref q660386), (3, .int p660390), (4, .int 0)]) z667389 3 dr_cJ1_indexOf_5af95_113 rfl hz667389.symm (Nat.le_of_ble_eq_true rfl) rfl ?_
                              refine G_goto 14 dr_cJ1_indexOf_5af95_116 (by decide +kernel) ?_
                              refine G_lv (L' := [(7, .int z667389), (6, .int z660398), (5, .int z660397), (0, .ref qs660387), (1, .int p660389), (2, .ref q660386), (3, .int p660390), (4, .int 0)]) [0, 4, 5, 6, 7, 8, 9, 10] rfl ?_
                              exact ih14_666309 z667389 (gB_w bz667389 (by decide) (by decide)) (by have qa0 : Int32.toInt 0 = 0 := (by decide); omega) (fun k e1 ht => kt14_666309 k e1 (fun R c1 c2 c3 c4 c5 c6 c7 c8 c9 => c8 g666308 z666314 z667082 z667247 z667248 z667249 g667368 z667389 k e1 bg666308 r666313 hz666314 r666469 hx667242 r667246 ez667247 ez667248 ez667249 hx667386 r667388 ez667389 (ht R c1 c2 c3 c4 c5 c6 c7 c8 c9))) (by have qa0 : Int32.toInt 0 = 0 := (by decide); omega)
                            · have r667390 : g667368.toInt = z667249.toInt := gC_eq hc667387
                              have bg667368'' : gB g667368 (-2147483643) 33554430 := ⟨by omega, by omega⟩
                              have bz667249'' : gB z667249 (-2147483643) 33554430 := ⟨by omega, by omega⟩
                              have hx667391 : tl_RStringLatin1_indexOf2_14 z660398 bs660388 z660397 p660390 f660391 (0 : Int32) 110 z667082 := kt14_666309 110 z667082 (fun R c1 c2 c3 c4 c5 c6 c7 c8 c9 => c9 g666308 z666314 z667082 z667247 z667248 z667249 g667368 bg666308 r666313 hz666314 r666469 hx667242 r667246 ez667247 ez667248 ez667249 hx667386 r667390)
                              refine G_iload 3 dr_cJ1_indexOf_5af95_110 rfl ?_
                              exact G_iretA dr_cJ1_indexOf_5af95_112 rfl (Nat.le_of_ble_eq_true rfl) (Nat.le_of_ble_eq_true rfl) ⟨z667082, rfl, rfl, (Nat.le_of_ble_eq_true rfl), (Nat.le_of_ble_eq_true rfl), (gB_w bz667082' (by decide) (by decide)), (by have qa0 : Int32.toInt 0 = 0 := (by decide); omega), (by first | exact ixP_of (by assumption) (by assumption) (by omega) | exact absurd (show False by omega) not_false), (fun R c1 c2 => c2 z660397 z660398 z667082 hz660397 bz660397 ez660398 hx667391)⟩
                          · have r667392 : z667382.toInt = z667383.toInt := gC_eq hc667384
                            have bz667382' : gB z667382 (-128) 127 := ⟨by omega, by omega⟩
                            obtain ⟨z667393, hz667393⟩ : ∃ z : Int32, z = g667368 + Int32.ofInt 1 := ⟨_, rfl⟩
                            have ez667393 : z667393.toInt = g667368.toInt + 1 := gI_inc hz667393 (by decide) bg667368' (by decide) (by decide)
                            have bz667393 : gB z667393 (-2147483643) 33554431 := ⟨by omega, by omega⟩
                            refine G_iinc (L' := [(8, .int z667393), (10, .int g667367), (9, .int z667249), (7, .int z667082), (6, .int z660398), (5, .int z660397), (0, .ref qs660387), (1, .int p660389), (2, .ref q660386), (3, .int p660390), (4, .int 0)]) z667393 2 dr_cJ1_indexOf_5af95_94 rfl hz667393.symm (Nat.le_of_ble_eq_true rfl) rfl ?_
                            have bg667367' : gB g667367 1 16777216 := ⟨by omega, by omega⟩
                            obtain ⟨z667394, hz667394⟩ : ∃ z : Int32, z = g667367 + Int32.ofInt 1 := ⟨_, rfl⟩
                            have ez667394 : z667394.toInt = g667367.toInt + 1 := gI_inc hz667394 (by decide) bg667367' (by decide) (by decide)
                            have bz667394 : gB z667394 2 16777217 := ⟨by omega, by omega⟩
                            refine G_iinc (L' := [(10, .int z667394), (8, .int z667393), (9, .int z667249), (7, .int z667082), (6, .int z660398), (5, .int z660397), (0, .ref qs660387), (1, .int p660389), (2, .ref q660386), (3, .int p660390), (4, .int 0)]) z667394 1 dr_cJ1_indexOf_5af95_97 rfl hz667394.symm (Nat.le_of_ble_eq_true rfl) rfl ?_
                            refine G_goto 76 dr_cJ1_indexOf_5af95_100 (by decide +kernel) ?_
                            refine G_lv (L' := [(10, .int z667394), (9, .int z667249), (8, .int z667393), (7, .int z667082), (6, .int z660398), (5, .int z660397), (0, .ref qs660387), (1, .int p660389), (2, .ref q660386), (3, .int p660390), (4, .int 0)]) [0, 2, 1, 3, 4, 5, 6, 7, 8, 9, 10] rfl ?_
                            exact ih76_667372 z667394 z667393 (gB_w bz667394 (by decide) (by decide)) (gB_w bz667393 (by decide) (by decide)) (by have qa0 : Int32.toInt 0 = 0 := (by decide); omega) (by have qa0 : Int32.toInt 0 = 0 := (by decide); omega) (by have qa0 : Int32.toInt 0 = 0 := (by decide); omega) (by have qa0 : Int32.toInt 0 = 0 := (by decide); omega) (fun k e1 ht => kt76_667372 k e1 (fun R c1 c2 c3 => c3 g667367 g667368 z667382 z667383 z667393 z667394 k e1 bg667367 bg667368 r667381 hz667382 hz667383 bz667383 r667392 ez667393 ez667394 (ht R c1 c2 c3))) (by have qa0 : Int32.toInt 0 = 0 := (by decide); omega)
                    exact hlp76_667372 (((z667249.toInt : Int) + 2 - z667247.toInt).toNat + 1) 1 z667247 (gB_w (gBl (show Int32.toInt 1 = 1 by decide)) (by decide) (by decide)) (gB_w bz667247 (by decide) (by decide)) (by have qa0 : Int32.toInt 0 = 0 := (by decide); have qa1 : Int32.toInt 1 = 1 := (by decide); omega) (by have qa0 : Int32.toInt 0 = 0 := (by decide); have qa1 : Int32.toInt 1 = 1 := (by decide); omega) (by have qa0 : Int32.toInt 0 = 0 := (by decide); have qa1 : Int32.toInt 1 = 1 := (by decide); omega) (by have qa0 : Int32.toInt 0 = 0 := (by decide); have qa1 : Int32.toInt 1 = 1 := (by decide); omega) (fun k e1 ht => ht) (Nat.lt_succ_self _)
                · have r667395 : z667239.toInt ≠ z660397.toInt := gC_ne hc667240
                  refine G_goto 30 dr_cJ1_indexOf_5af95_49 (by decide +kernel) ?_
                  exact ih30_667081 z667082 (gB_w bz667082' (by decide) (by decide)) (by have qa0 : Int32.toInt 0 = 0 := (by decide); omega) (by have qa0 : Int32.toInt 0 = 0 := (by decide); omega) (fun k e1 ht => kt30_667081 k e1 (fun R c1 c2 c3 => c3 g667079 z667082 z667239 k e1 bg667079 ez667082 r667238 hz667239 r667395 (ht R c1 c2 c3))) (by have qa0 : Int32.toInt 0 = 0 := (by decide); omega)
          exact hlp30_667081 (((z660398.toInt : Int) + 2 - g666308.toInt).toNat + 1) g666308 bg666308' (by have qa0 : Int32.toInt 0 = 0 := (by decide); omega) (by have qa0 : Int32.toInt 0 = 0 := (by decide); omega) (fun k e1 ht => ht) (Nat.lt_succ_self _)
  exact hlp14_666309 (((z660398.toInt : Int) + 2 - 0).toNat + 1) 0 (gB_w (gBl (show Int32.toInt 0 = 0 by decide)) (by decide) (by decide)) (by have qa0 : Int32.toInt 0 = 0 := (by decide); omega) (fun k e1 ht => ht) (Nat.lt_succ_self _)
/- tr_RStringLatin1_indexOf: result -/
def tr_RStringLatin1_indexOf (bs : List Int32) (a1_v : Nat → Int32) (a1_n : Nat) (o1 : Int32) : Prop := ∀ R : (Int32) → Prop,
  (∀ (x1 : Int32) (x2 : Int32) (x3 : Int32) (x4 : Int32) (x5 : Int32), x1.toInt = (a1_n : Nat) → x1.toInt ≠ 0 → x2.toInt = (bs.length : Int) → x2.toInt ≠ 0 → x3.toInt = (bs.length : Int) → x4.toInt = (a1_n : Nat) → gB x5 (-2147483646) 16777215 → tr_RStringLatin1_indexOf2 bs x3 x4 a1_v x5 → R x5) →
  (∀ (x1 : Int32) (x2 : Int32), x1.toInt = (a1_n : Nat) → x1.toInt ≠ 0 → x2.toInt = (bs.length : Int) → x2.toInt = 0 → R (-1 : Int32)) →
  R o1
