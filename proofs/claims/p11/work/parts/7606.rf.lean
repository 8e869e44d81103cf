theorem dr_cJ13_numberOfTrailingZeros_95d88_0 : decode cJ13_numberOfTrailingZeros_95d88 0 = .ok (.lload_n 0, 1) := by decide +kernel
theorem dr_cJ13_numberOfTrailingZeros_95d88_1 : decode cJ13_numberOfTrailingZeros_95d88 1 = .ok (.l2i, 1) := by decide +kernel
theorem dr_cJ13_numberOfTrailingZeros_95d88_2 : decode cJ13_numberOfTrailingZeros_95d88 2 = .ok (.istore_n 2, 1) := by decide +kernel
theorem dr_cJ13_numberOfTrailingZeros_95d88_3 : decode cJ13_numberOfTrailingZeros_95d88 3 = .ok (.iload_n 2, 1) := by decide +kernel
theorem dr_cJ13_numberOfTrailingZeros_95d88_4 : decode cJ13_numberOfTrailingZeros_95d88 4 = .ok (.ifCond .ne 17, 3) := by decide +kernel
theorem dr_cJ13_numberOfTrailingZeros_95d88_21 : decode cJ13_numberOfTrailingZeros_95d88 21 = .ok (.iload_n 2, 1) := by decide +kernel
theorem dr_cJ13_numberOfTrailingZeros_95d88_22 : decode cJ13_numberOfTrailingZeros_95d88 22 = .ok (.invokestatic 311, 3) := by decide +kernel
theorem wr_11_4 : (Jvm.Cond.methodLink "java/lang/Long" (311 : Nat) ({ cls := "java/lang/Integer", name := "numberOfTrailingZeros", desc := "(I)I" } : Jvm.MethodName)) ∈ gw := gw_11 4 rfl rfl
theorem wr_1_35 : (Jvm.Cond.initialized "java/lang/Integer") ∈ gw := gw_1 35 rfl rfl
theorem wr_11_6 : (Jvm.Cond.code ({ cls := "java/lang/Integer", name := "numberOfTrailingZeros", desc := "(I)I" } : Jvm.MethodName) prog_29_method_48_code (2 : Nat) (Option.some Jvm.ClassFile.FieldType.int)) ∈ gw := gw_11 6 rfl rfl
theorem wr_11_5 : (Jvm.Cond.static ({ cls := "java/lang/Integer", name := "numberOfTrailingZeros", desc := "(I)I" } : Jvm.MethodName)) ∈ gw := gw_11 5 rfl rfl
theorem dr_cJ13_numberOfTrailingZeros_95d88_25 : decode cJ13_numberOfTrailingZeros_95d88 25 = .ok (.ireturn, 1) := by decide +kernel
theorem dr_cJ13_numberOfTrailingZeros_95d88_7 : decode cJ13_numberOfTrailingZeros_95d88 7 = .ok (.bipush 32, 2) := by decide +kernel
theorem dr_cJ13_numberOfTrailingZeros_95d88_9 : decode cJ13_numberOfTrailingZeros_95d88 9 = .ok (.lload_n 0, 1) := by decide +kernel
theorem dr_cJ13_numberOfTrailingZeros_95d88_10 : decode cJ13_numberOfTrailingZeros_95d88 10 = .ok (.bipush 32, 2) := by decide +kernel
theorem dr_cJ13_numberOfTrailingZeros_95d88_12 : decode cJ13_numberOfTrailingZeros_95d88 12 = .ok (.lushr, 1) := by decide +kernel
theorem dr_cJ13_numberOfTrailingZeros_95d88_13 : decode cJ13_numberOfTrailingZeros_95d88 13 = .ok (.l2i, 1) := by decide +kernel
theorem dr_cJ13_numberOfTrailingZeros_95d88_14 : decode cJ13_numberOfTrailingZeros_95d88 14 = .ok (.invokestatic 311, 3) := by decide +kernel
theorem dr_cJ13_numberOfTrailingZeros_95d88_17 : decode cJ13_numberOfTrailingZeros_95d88 17 = .ok (.iadd, 1) := by decide +kernel
theorem dr_cJ13_numberOfTrailingZeros_95d88_18 : decode cJ13_numberOfTrailingZeros_95d88 18 = .ok (.goto 7, 3) := by decide +kernel
theorem dr_cX14_isDigit_0 : decode cX14_isDigit 0 = .ok (.iload_n 0, 1) := by decide +kernel
theorem dr_cX14_isDigit_1 : decode cX14_isDigit 1 = .ok (.bipush 48, 2) := by decide +kernel
theorem dr_cX14_isDigit_3 : decode cX14_isDigit 3 = .ok (.if_icmp .lt 13, 3) := by decide +kernel
theorem dr_cX14_isDigit_16 : decode cX14_isDigit 16 = .ok (.iconst 0, 1) := by decide +kernel
theorem dr_cX14_isDigit_17 : decode cX14_isDigit 17 = .ok (.ireturn, 1) := by decide +kernel
theorem dr_cX14_isDigit_6 : decode cX14_isDigit 6 = .ok (.iload_n 0, 1) := by decide +kernel
theorem dr_cX14_isDigit_7 : decode cX14_isDigit 7 = .ok (.bipush 57, 2) := by decide +kernel
theorem dr_cX14_isDigit_9 : decode cX14_isDigit 9 = .ok (.if_icmp .gt 7, 3) := by decide +kernel
theorem dr_cX14_isDigit_12 : decode cX14_isDigit 12 = .ok (.iconst 1, 1) := by decide +kernel
theorem dr_cX14_isDigit_13 : decode cX14_isDigit 13 = .ok (.goto 4, 3) := by decide +kernel
theorem dr_cX14_isLetter_0 : decode cX14_isLetter 0 = .ok (.iload_n 0, 1) := by decide +kernel
theorem dr_cX14_isLetter_1 : decode cX14_isLetter 1 = .ok (.bipush 97, 2) := by decide +kernel
theorem dr_cX14_isLetter_3 : decode cX14_isLetter 3 = .ok (.if_icmp .lt 13, 3) := by decide +kernel
theorem dr_cX14_isLetter_16 : decode cX14_isLetter 16 = .ok (.iconst 0, 1) := by decide +kernel
theorem dr_cX14_isLetter_17 : decode cX14_isLetter 17 = .ok (.ireturn, 1) := by decide +kernel
theorem dr_cX14_isLetter_6 : decode cX14_isLetter 6 = .ok (.iload_n 0, 1) := by decide +kernel
theorem dr_cX14_isLetter_7 : decode cX14_isLetter 7 = .ok (.bipush 122, 2) := by decide +kernel
theorem dr_cX14_isLetter_9 : decode cX14_isLetter 9 = .ok (.if_icmp .gt 7, 3) := by decide +kernel
theorem dr_cX14_isLetter_12 : decode cX14_isLetter 12 = .ok (.iconst 1, 1) := by decide +kernel
theorem dr_cX14_isLetter_13 : decode cX14_isLetter 13 = .ok (.goto 4, 3) := by decide +kernel
theorem dr_cX13_row_0 : decode cX13_row 0 = .ok (.aload_n 0, 1) := by decide +kernel
theorem dr_cX13_row_1 : decode cX13_row 1 = .ok (.getfield 19, 3) := by decide +kernel
theorem wr_7_32 : (Jvm.Cond.fieldLink "SpillForgeModel$Code" (19 : Nat) "SpillForgeModel$Code" "rowN" "I") ∈ gw := gw_7 32 rfl rfl
theorem dr_cX13_row_4 : decode cX13_row 4 = .ok (.aload_n 0, 1) := by decide +kernel
theorem dr_cX13_row_5 : decode cX13_row 5 = .ok (.getfield 16, 3) := by decide +kernel
theorem wr_7_31 : (Jvm.Cond.fieldLink "SpillForgeModel$Code" (16 : Nat) "SpillForgeModel$Code" "rows" "Ljava/util/ArrayList;") ∈ gw := gw_7 31 rfl rfl
theorem dr_cX13_row_8 : decode cX13_row 8 = .ok (.invokevirtual 26, 3) := by decide +kernel
theorem wr_9_157 : (Jvm.Cond.methodLink "SpillForgeModel$Code" (26 : Nat) ({ cls := "java/util/ArrayList", name := "size", desc := "()I" } : Jvm.MethodName)) ∈ gw := gw_9 157 rfl rfl
theorem wr_9_160 : (Jvm.Cond.code ({ cls := "java/util/ArrayList", name := "size", desc := "()I" } : Jvm.MethodName) prog_43_method_8_code (1 : Nat) (Option.some Jvm.ClassFile.FieldType.int)) ∈ gw := gw_9 160 rfl rfl
theorem wr_9_158 : (Jvm.Cond.instanceMethod ({ cls := "java/util/ArrayList", name := "size", desc := "()I" } : Jvm.MethodName)) ∈ gw := gw_9 158 rfl rfl
theorem wr_9_159 : (Jvm.Cond.selects "java/util/ArrayList" ({ cls := "java/util/ArrayList", name := "size", desc := "()I" } : Jvm.MethodName) ({ cls := "java/util/ArrayList", name := "size", desc := "()I" } : Jvm.MethodName)) ∈ gw := gw_9 159 rfl rfl
theorem dr_cX13_row_11 : decode cX13_row 11 = .ok (.if_icmp .ne 18, 3) := by decide +kernel
theorem dr_cX13_row_29 : decode cX13_row 29 = .ok (.aload_n 0, 1) := by decide +kernel
theorem dr_cX13_row_30 : decode cX13_row 30 = .ok (.getfield 16, 3) := by decide +kernel
theorem dr_cX13_row_33 : decode cX13_row 33 = .ok (.aload_n 0, 1) := by decide +kernel
theorem dr_cX13_row_34 : decode cX13_row 34 = .ok (.getfield 19, 3) := by decide +kernel
theorem dr_cX13_row_37 : decode cX13_row 37 = .ok (.invokevirtual 37, 3) := by decide +kernel
theorem wr_10_62 : (Jvm.Cond.methodLink "SpillForgeModel$Code" (37 : Nat) ({ cls := "java/util/ArrayList", name := "get", desc := "(I)Ljava/lang/Object;" } : Jvm.MethodName)) ∈ gw := gw_10 62 rfl rfl
theorem wr_10_65 : (Jvm.Cond.code ({ cls := "java/util/ArrayList", name := "get", desc := "(I)Ljava/lang/Object;" } : Jvm.MethodName) prog_43_method_20_code (2 : Nat) (Option.some (Jvm.ClassFile.FieldType.object "java/lang/Object"))) ∈ gw := gw_10 65 rfl rfl
theorem wr_10_63 : (Jvm.Cond.instanceMethod ({ cls := "java/util/ArrayList", name := "get", desc := "(I)Ljava/lang/Object;" } : Jvm.MethodName)) ∈ gw := gw_10 63 rfl rfl
theorem wr_10_64 : (Jvm.Cond.selects "java/util/ArrayList" ({ cls := "java/util/ArrayList", name := "get", desc := "(I)Ljava/lang/Object;" } : Jvm.MethodName) ({ cls := "java/util/ArrayList", name := "get", desc := "(I)Ljava/lang/Object;" } : Jvm.MethodName)) ∈ gw := gw_10 64 rfl rfl
theorem dr_cX13_row_40 : decode cX13_row 40 = .ok (.checkcast 45, 3) := by decide +kernel
theorem wr_10_83 : (Jvm.Cond.classLink "SpillForgeModel$Code" (45 : Nat) "SpillForgeModel$Row") ∈ gw := gw_10 83 rfl rfl
theorem dr_cX13_row_43 : decode cX13_row 43 = .ok (.astore_n 1, 1) := by decide +kernel
theorem dr_cX13_row_44 : decode cX13_row 44 = .ok (.aload_n 0, 1) := by decide +kernel
theorem dr_cX13_row_45 : decode cX13_row 45 = .ok (.dup, 1) := by decide +kernel
theorem dr_cX13_row_46 : decode cX13_row 46 = .ok (.getfield 19, 3) := by decide +kernel
theorem dr_cX13_row_49 : decode cX13_row 49 = .ok (.iconst 1, 1) := by decide +kernel
theorem dr_cX13_row_50 : decode cX13_row 50 = .ok (.iadd, 1) := by decide +kernel
theorem dr_cX13_row_51 : decode cX13_row 51 = .ok (.putfield 19, 3) := by decide +kernel
theorem dr_cX13_row_54 : decode cX13_row 54 = .ok (.aload_n 1, 1) := by decide +kernel
theorem dr_cX13_row_55 : decode cX13_row 55 = .ok (.iconst 0, 1) := by decide +kernel
theorem dr_cX13_row_56 : decode cX13_row 56 = .ok (.putfield 48, 3) := by decide +kernel
theorem wr_9_196 : (Jvm.Cond.fieldLink "SpillForgeModel$Code" (48 : Nat) "SpillForgeModel$Row" "regA" "Z") ∈ gw := gw_9 196 rfl rfl
theorem dr_cX13_row_59 : decode cX13_row 59 = .ok (.aload_n 1, 1) := by decide +kernel
theorem dr_cX13_row_60 : decode cX13_row 60 = .ok (.iconst 0, 1) := by decide +kernel
theorem dr_cX13_row_61 : decode cX13_row 61 = .ok (.putfield 52, 3) := by decide +kernel
theorem wr_9_200 : (Jvm.Cond.fieldLink "SpillForgeModel$Code" (52 : Nat) "SpillForgeModel$Row" "regB" "Z") ∈ gw := gw_9 200 rfl rfl
theorem dr_cX13_row_64 : decode cX13_row 64 = .ok (.aload_n 1, 1) := by decide +kernel
theorem dr_cX13_row_65 : decode cX13_row 65 = .ok (.iconst 0, 1) := by decide +kernel
theorem dr_cX13_row_66 : decode cX13_row 66 = .ok (.putfield 55, 3) := by decide +kernel
theorem wr_9_184 : (Jvm.Cond.fieldLink "SpillForgeModel$Code" (55 : Nat) "SpillForgeModel$Row" "a" "I") ∈ gw := gw_9 184 rfl rfl
theorem dr_cX13_row_69 : decode cX13_row 69 = .ok (.aload_n 1, 1) := by decide +kernel
theorem dr_cX13_row_70 : decode cX13_row 70 = .ok (.iconst 0, 1) := by decide +kernel
theorem dr_cX13_row_71 : decode cX13_row 71 = .ok (.putfield 58, 3) := by decide +kernel
theorem wr_9_188 : (Jvm.Cond.fieldLink "SpillForgeModel$Code" (58 : Nat) "SpillForgeModel$Row" "b" "I") ∈ gw := gw_9 188 rfl rfl
theorem dr_cX13_row_74 : decode cX13_row 74 = .ok (.aload_n 1, 1) := by decide +kernel
theorem dr_cX13_row_75 : decode cX13_row 75 = .ok (.iconst 0, 1) := by decide +kernel
theorem dr_cX13_row_76 : decode cX13_row 76 = .ok (.putfield 61, 3) := by decide +kernel
theorem wr_9_180 : (Jvm.Cond.fieldLink "SpillForgeModel$Code" (61 : Nat) "SpillForgeModel$Row" "t" "I") ∈ gw := gw_9 180 rfl rfl
theorem dr_cX13_row_79 : decode cX13_row 79 = .ok (.aload_n 1, 1) := by decide +kernel
theorem dr_cX13_row_80 : decode cX13_row 80 = .ok (.iconst 0, 1) := by decide +kernel
theorem dr_cX13_row_81 : decode cX13_row 81 = .ok (.putfield 64, 3) := by decide +kernel
theorem wr_9_192 : (Jvm.Cond.fieldLink "SpillForgeModel$Code" (64 : Nat) "SpillForgeModel$Row" "slot" "I") ∈ gw := gw_9 192 rfl rfl
theorem dr_cX13_row_84 : decode cX13_row 84 = .ok (.aload_n 1, 1) := by decide +kernel
theorem dr_cX13_row_85 : decode cX13_row 85 = .ok (.areturn, 1) := by decide +kernel
theorem dr_cX15_init_0 : decode cX15_init 0 = .ok (.aload_n 0, 1) := by decide +kernel
theorem dr_cX15_init_1 : decode cX15_init 1 = .ok (.invokespecial 3, 3) := by decide +kernel
theorem wr_9_174 : (Jvm.Cond.methodLink "SpillForgeModel$Row" (3 : Nat) ({ cls := "java/lang/Object", name := "<init>", desc := "()V" } : Jvm.MethodName)) ∈ gw := gw_9 174 rfl rfl
theorem dr_cX15_init_4 : decode cX15_init 4 = .ok (.return_, 1) := by decide +kernel
theorem dr_cX13_row_14 : decode cX13_row 14 = .ok (.aload_n 0, 1) := by decide +kernel
theorem dr_cX13_row_15 : decode cX13_row 15 = .ok (.getfield 16, 3) := by decide +kernel
theorem dr_cX13_row_18 : decode cX13_row 18 = .ok (.new 45, 3) := by decide +kernel
theorem wr_9_170 : (Jvm.Cond.instantiable "SpillForgeModel$Row" (7 : Nat)) ∈ gw := gw_9 170 rfl rfl
theorem dr_cX13_row_21 : decode cX13_row 21 = .ok (.dup, 1) := by decide +kernel
theorem dr_cX13_row_22 : decode cX13_row 22 = .ok (.invokespecial 47, 3) := by decide +kernel
theorem wr_9_173 : (Jvm.Cond.code ({ cls := "SpillForgeModel$Row", name := "<init>", desc := "()V" } : Jvm.MethodName) prog_18_method_1_code (1 : Nat) (Option.none : Option Jvm.ClassFile.FieldType)) ∈ gw := gw_9 173 rfl rfl
theorem wr_9_172 : (Jvm.Cond.instanceMethod ({ cls := "SpillForgeModel$Row", name := "<init>", desc := "()V" } : Jvm.MethodName)) ∈ gw := gw_9 172 rfl rfl
theorem dr_cX13_row_25 : decode cX13_row 25 = .ok (.invokevirtual 33, 3) := by decide +kernel
theorem wr_10_3 : (Jvm.Cond.methodLink "SpillForgeModel$Code" (33 : Nat) ({ cls := "java/util/ArrayList", name := "add", desc := "(Ljava/lang/Object;)Z" } : Jvm.MethodName)) ∈ gw := gw_10 3 rfl rfl
theorem wr_10_6 : (Jvm.Cond.code ({ cls := "java/util/ArrayList", name := "add", desc := "(Ljava/lang/Object;)Z" } : Jvm.MethodName) prog_43_method_25_code (2 : Nat) (Option.some Jvm.ClassFile.FieldType.boolean)) ∈ gw := gw_10 6 rfl rfl
theorem wr_10_4 : (Jvm.Cond.instanceMethod ({ cls := "java/util/ArrayList", name := "add", desc := "(Ljava/lang/Object;)Z" } : Jvm.MethodName)) ∈ gw := gw_10 4 rfl rfl
theorem wr_10_5 : (Jvm.Cond.selects "java/util/ArrayList" ({ cls := "java/util/ArrayList", name := "add", desc := "(Ljava/lang/Object;)Z" } : Jvm.MethodName) ({ cls := "java/util/ArrayList", name := "add", desc := "(Ljava/lang/Object;)Z" } : Jvm.MethodName)) ∈ gw := gw_10 5 rfl rfl
theorem dr_cX13_row_28 : decode cX13_row 28 = .ok (.pop, 1) := by decide +kernel
abbrev ky_2119_Long_numberOfTrailingZeros : gKey := (cJ13_numberOfTrailingZeros_95d88, 3, "java/lang/Long", (some FieldType.int), [], "numberOfTrailingZeros", fun _ _ => True)
def pp_2119_Long_numberOfTrailingZeros (D : va_G) (I : FieldType → ClassId) (P2116 : List Nat) (F2117 : Nat → va_E) (pl2118 : Int64) : Option Value → va_W → Nat → Nat → Prop := fun r w dc ds => (∃ (o2232 : Int32) (z2120 : Int32), r = some (.int o2232) ∧ w = va_pl P2116 F2117 ∧ dc ≤ 0 ∧ ds ≤ 0 ∧ z2120.toInt ≠ 0 ∧ gB o2232 (-2147483648) 2147483647 ∧ gB z2120 (-2147483648) 2147483647 ∧ tr_RLong_numberOfTrailingZeros pl2118 o2232) ∨ (∃ (z2244 : Int32) (z2120 : Int32), r = some (.int z2244) ∧ w = va_pl P2116 F2117 ∧ dc ≤ 0 ∧ ds ≤ 0 ∧ z2120.toInt = 0 ∧ gB z2244 (-2147483648) 2147483647 ∧ gB z2120 0 0 ∧ tr_RLong_numberOfTrailingZeros pl2118 z2244)
set_option maxRecDepth 100000 in
set_option maxHeartbeats 4000000 in
theorem cp_2119_Long_numberOfTrailingZeros (l : Launch) (hl0 : l.stackTraces = false) (D : va_G) (I : FieldType → ClassId) (P2116 : List Nat) (F2117 : Nat → va_E) (pl2118 : Int64)  : CtA (gV D I) l yJ13_numberOfTrailingZeros_95d88 cJ13_numberOfTrailingZeros_95d88 3 (some FieldType.int) 1 21 0 0 [.long pl2118] (va_pl P2116 F2117) (pp_2119_Long_numberOfTrailingZeros D I P2116 F2117 pl2118) gNA := by
  refine CtA_ofF hl0 (by decide +kernel) (Nat.le_of_ble_eq_true rfl) ?_
  refine G_lload_n 0 dr_cJ13_numberOfTrailingZeros_95d88_0 rfl ?_
  refine G_l2i dr_cJ13_numberOfTrailingZeros_95d88_1 (G_nam fun z2120 hz2120 => ?_)
  have bz2120 : gB z2120 (-2147483648) 2147483647 := gB_any z2120
  refine G_istore_n (L' := [(2, .int z2120), (0, .long pl2118)]) dr_cJ13_numberOfTrailingZeros_95d88_2 (Nat.le_of_ble_eq_true rfl) rfl ?_
  refine G_iload_n 0 dr_cJ13_numberOfTrailingZeros_95d88_3 rfl ?_
  refine G_if_ne 21 dr_cJ13_numberOfTrailingZeros_95d88_4 (by decide +kernel) (fun hc2121 => ?_) (fun hc2121 => ?_)
  · have r2122 : z2120.toInt ≠ 0 := gj_neq hc2121 (show Int32.toInt 0 = 0 by decide)
    refine G_iload_n 0 dr_cJ13_numberOfTrailingZeros_95d88_21 rfl ?_
    refine Gw_callS (As := [.int z2120]) (gV_ok D I) (cp_2126_Integer_numberOfTrailingZeros l hl0 D I P2116 F2117 z2120 ) dr_cJ13_numberOfTrailingZeros_95d88_22 ⟨wr_11_4, wr_1_35, wr_11_6, by decide, rfl, (Nat.le_of_ble_eq_true rfl), (Nat.le_of_ble_eq_true rfl)⟩ wr_11_5 (show 0 + 0 ≤ 0 by first | omega | decide) (show 0 + 0 ≤ 0 by first | omega | decide) (Nat.le_of_ble_eq_true rfl) (fun r2230 w2231 dc2227 ds2228 hp2229 => ?_) (fun _ _ _ _ _ z => z.elim)
    obtain ⟨o2232, rfl, rfl, hdc, hds, ht2233⟩ := hp2229
    have bo2232 := gB_any o2232
    change G _ _ _ _ _ _ _ (.int o2232 :: _) _ _ _
    refine G_widen (cs' := 0) (sl' := 0) (by omega) (by omega) ?_
    exact G_iretA dr_cJ13_numberOfTrailingZeros_95d88_25 rfl (Nat.le_of_ble_eq_true rfl) (Nat.le_of_ble_eq_true rfl) (Or.inl ⟨o2232, z2120, rfl, rfl, (Nat.le_of_ble_eq_true rfl), (Nat.le_of_ble_eq_true rfl), r2122, bo2232, bz2120, (fun R c1 c2 => c1 z2120 o2232 hz2120 r2122 ht2233)⟩)
  · have r2234 : z2120.toInt = 0 := gj_eq hc2121 (show Int32.toInt 0 = 0 by decide)
    have bz2120' : gB z2120 0 0 := ⟨by omega, by omega⟩
    refine G_bipush 32 dr_cJ13_numberOfTrailingZeros_95d88_7 (by decide +kernel) ?_
    refine G_lload_n 1 dr_cJ13_numberOfTrailingZeros_95d88_9 rfl ?_
    refine G_bipush 32 dr_cJ13_numberOfTrailingZeros_95d88_10 (by decide +kernel) ?_
    refine G_lushr dr_cJ13_numberOfTrailingZeros_95d88_12 (G_namL fun u2235 hu2235 => ?_)
    refine G_l2i dr_cJ13_numberOfTrailingZeros_95d88_13 (G_nam fun z2236 hz2236 => ?_)
    have bz2236 : gB z2236 (-2147483648) 2147483647 := gB_any z2236
    refine Gw_callS (As := [.int z2236]) (gV_ok D I) (cp_2126_Integer_numberOfTrailingZeros l hl0 D I P2116 F2117 z2236 ) dr_cJ13_numberOfTrailingZeros_95d88_14 ⟨wr_11_4, wr_1_35, wr_11_6, by decide, rfl, (Nat.le_of_ble_eq_true rfl), (Nat.le_of_ble_eq_true rfl)⟩ wr_11_5 (show 0 + 0 ≤ 0 by first | omega | decide) (show 0 + 0 ≤ 0 by first | omega | decide) (Nat.le_of_ble_eq_true rfl) (fun r2240 w2241 dc2237 ds2238 hp2239 => ?_) (fun _ _ _ _ _ z => z.elim)
    obtain ⟨o2242, rfl, rfl, hdc, hds, ht2243⟩ := hp2239
    have bo2242 := gB_any o2242
    change G _ _ _ _ _ _ _ (.int o2242 :: _) _ _ _
    refine G_widen (cs' := 0) (sl' := 0) (by omega) (by omega) ?_
    refine G_iadd dr_cJ13_numberOfTrailingZeros_95d88_17 (G_nam fun z2244 hz2244 => ?_)
    have bz2244 : gB z2244 (-2147483648) 2147483647 := gB_any z2244
    refine G_goto 25 dr_cJ13_numberOfTrailingZeros_95d88_18 (by decide +kernel) ?_
    exact G_iretA dr_cJ13_numberOfTrailingZeros_95d88_25 rfl (Nat.le_of_ble_eq_true rfl) (Nat.le_of_ble_eq_true rfl) (Or.inr (⟨z2244, z2120, rfl, rfl, (Nat.le_of_ble_eq_true rfl), (Nat.le_of_ble_eq_true rfl), r2234, bz2244, bz2120', (fun R c1 c2 => c2 z2120 u2235 z2236 o2242 z2244 hz2120 r2234 hu2235 hz2236 ht2243 hz2244)⟩))
/- tr_RReader_isDigit: result -/
def tr_RReader_isDigit (a0 : Int32) (o1 : Int32) : Prop := ∀ R : (Int32) → Prop,
  (a0.toInt < 48 → R (0 : Int32)) →
  (48 ≤ a0.toInt → 57 < a0.toInt → R (0 : Int32)) →
  (48 ≤ a0.toInt → a0.toInt ≤ 57 → R (1 : Int32)) →
  R o1
abbrev ky_2248_Reader_isDigit : gKey := (cX14_isDigit, 1, "SpillForgeModel$Reader", (some FieldType.boolean), [], "isDigit", fun _ _ => True)
def pp_2248_Reader_isDigit (D : va_G) (I : FieldType → ClassId) (P2245 : List Nat) (F2246 : Nat → va_E) (p2247 : Int32) : Option Value → va_W → Nat → Nat → Prop := fun r w dc ds => (r = some (.int 0) ∧ w = va_pl P2245 F2246 ∧ dc ≤ 0 ∧ ds ≤ 0 ∧ p2247.toInt < 48 ∧ tr_RReader_isDigit p2247 (0 : Int32)) ∨ (r = some (.int 0) ∧ w = va_pl P2245 F2246 ∧ dc ≤ 0 ∧ ds ≤ 0 ∧ 48 ≤ p2247.toInt ∧ 57 < p2247.toInt ∧ tr_RReader_isDigit p2247 (0 : Int32)) ∨ (r = some (.int 1) ∧ w = va_pl P2245 F2246 ∧ dc ≤ 0 ∧ ds ≤ 0 ∧ 48 ≤ p2247.toInt ∧ p2247.toInt ≤ 57 ∧ tr_RReader_isDigit p2247 (1 : Int32))
set_option maxRecDepth 100000 in
set_option maxHeartbeats 4000000 in
theorem cp_2248_Reader_isDigit (l : Launch) (hl0 : l.stackTraces = false) (D : va_G) (I : FieldType → ClassId) (P2245 : List Nat) (F2246 : Nat → va_E) (p2247 : Int32)  : CtA (gV D I) l yX14_isDigit cX14_isDigit 1 (some FieldType.boolean) 0 0 0 0 [.int p2247] (va_pl P2245 F2246) (pp_2248_Reader_isDigit D I P2245 F2246 p2247) gNA := by
  refine CtA_of hl0 (by decide) (Nat.le_of_ble_eq_true rfl) ?_
  have bp2247 := gB_any p2247
  refine G_iload_n 0 dr_cX14_isDigit_0 rfl ?_
  refine G_bipush 48 dr_cX14_isDigit_1 (by decide +kernel) ?_
  refine G_icmp_lt 16 dr_cX14_isDigit_3 (by decide +kernel) (fun hc2249 => ?_) (fun hc2249 => ?_)
  · have r2250 : p2247.toInt < 48 := gj_lt hc2249 (show Int32.toInt 48 = 48 by decide)
    have bp2247' : gB p2247 (-2147483648) 47 := ⟨by omega, by omega⟩
    refine G_iconst 0 dr_cX14_isDigit_16 (by decide +kernel) ?_
    exact G_zretA FieldType.boolean dr_cX14_isDigit_17 rfl rfl (Nat.le_of_ble_eq_true rfl) (Nat.le_of_ble_eq_true rfl) (Or.inl ⟨rfl, rfl, (Nat.le_of_ble_eq_true rfl), (Nat.le_of_ble_eq_true rfl), r2250, (fun R c1 c2 c3 => c1 r2250)⟩)
  · have r2251 : 48 ≤ p2247.toInt := gj_nlt hc2249 (show Int32.toInt 48 = 48 by decide)
    have bp2247' : gB p2247 48 2147483647 := ⟨by omega, by omega⟩
    refine G_iload_n 0 dr_cX14_isDigit_6 rfl ?_
    refine G_bipush 57 dr_cX14_isDigit_7 (by decide +kernel) ?_
    refine G_icmp_gt 16 dr_cX14_isDigit_9 (by decide +kernel) (fun hc2252 => ?_) (fun hc2252 => ?_)
    · have r2253 : 57 < p2247.toInt := gj_ltL hc2252 (show Int32.toInt 57 = 57 by decide)
      have bp2247'' : gB p2247 58 2147483647 := ⟨by omega, by omega⟩
      refine G_iconst 0 dr_cX14_isDigit_16 (by decide +kernel) ?_
      exact G_zretA FieldType.boolean dr_cX14_isDigit_17 rfl rfl (Nat.le_of_ble_eq_true rfl) (Nat.le_of_ble_eq_true rfl) (Or.inr (Or.inl ⟨rfl, rfl, (Nat.le_of_ble_eq_true rfl), (Nat.le_of_ble_eq_true rfl), r2251, r2253, (fun R c1 c2 c3 => c2 r2251 r2253)⟩))
    · have r2254 : p2247.toInt ≤ 57 := gj_nltL hc2252 (show Int32.toInt 57 = 57 by decide)
      have bp2247'' : gB p2247 48 57 := ⟨by omega, by omega⟩
      refine G_iconst 1 dr_cX14_isDigit_12 (by decide +kernel) ?_
      refine G_goto 17 dr_cX14_isDigit_13 (by decide +kernel) ?_
      exact G_zretA FieldType.boolean dr_cX14_isDigit_17 rfl rfl (Nat.le_of_ble_eq_true rfl) (Nat.le_of_ble_eq_true rfl) (Or.inr (Or.inr (⟨rfl, rfl, (Nat.le_of_ble_eq_true rfl), (Nat.le_of_ble_eq_true rfl), r2251, r2254, (fun R c1 c2 c3 => c3 r2251 r2254)⟩)))
/- tr_RReader_isLetter: result -/
def tr_RReader_isLetter (a0 : Int32) (o1 : Int32) : Prop := ∀ R : (Int32) → Prop,
  (a0.toInt < 97 → R (0 : Int32)) →
  (97 ≤ a0.toInt → 122 < a0.toInt → R (0 : Int32)) →
  (97 ≤ a0.toInt → a0.toInt ≤ 122 → R (1 : Int32)) →
  R o1
abbrev ky_2258_Reader_isLetter : gKey := (cX14_isLetter, 1, "SpillForgeModel$Reader", (some FieldType.boolean), [], "isLetter", fun _ _ => True)
def pp_2258_Reader_isLetter (D : va_G) (I : FieldType → ClassId) (P2255 : List Nat) (F2256 : Nat → va_E) (p2257 : Int32) : Option Value → va_W → Nat → Nat → Prop := fun r w dc ds => (r = some (.int 0) ∧ w = va_pl P2255 F2256 ∧ dc ≤ 0 ∧ ds ≤ 0 ∧ p2257.toInt < 97 ∧ tr_RReader_isLetter p2257 (0 : Int32)) ∨ (r = some (.int 0) ∧ w = va_pl P2255 F2256 ∧ dc ≤ 0 ∧ ds ≤ 0 ∧ 97 ≤ p2257.toInt ∧ 122 < p2257.toInt ∧ tr_RReader_isLetter p2257 (0 : Int32)) ∨ (r = some (.int 1) ∧ w = va_pl P2255 F2256 ∧ dc ≤ 0 ∧ ds ≤ 0 ∧ 97 ≤ p2257.toInt ∧ p2257.toInt ≤ 122 ∧ tr_RReader_isLetter p2257 (1 : Int32))
set_option maxRecDepth 100000 in
set_option maxHeartbeats 4000000 in
theorem cp_2258_Reader_isLetter (l : Launch) (hl0 : l.stackTraces = false) (D : va_G) (I : FieldType → ClassId) (P2255 : List Nat) (F2256 : Nat → va_E) (p2257 : Int32)  : CtA (gV D I) l yX14_isLetter cX14_isLetter 1 (some FieldType.boolean) 0 0 0 0 [.int p2257] (va_pl P2255 F2256) (pp_2258_Reader_isLetter D I P2255 F2256 p2257) gNA := by
  refine CtA_of hl0 (by decide) (Nat.le_of_ble_eq_true rfl) ?_
  have bp2257 := gB_any p2257
  refine G_iload_n 0 dr_cX14_isLetter_0 rfl ?_
  refine G_bipush 97 dr_cX14_isLetter_1 (by decide +kernel) ?_
  refine G_icmp_lt 16 dr_cX14_isLetter_3 (by decide +kernel) (fun hc2259 => ?_) (fun hc2259 => ?_)
  · have r2260 : p2257.toInt < 97 := gj_lt hc2259 (show Int32.toInt 97 = 97 by decide)
    have bp2257' : gB p2257 (-2147483648) 96 := ⟨by omega, by omega⟩
    refine G_iconst 0 dr_cX14_isLetter_16 (by decide +kernel) ?_
    exact G_zretA FieldType.boolean dr_cX14_isLetter_17 rfl rfl (Nat.le_of_ble_eq_true rfl) (Nat.le_of_ble_eq_true rfl) (Or.inl ⟨rfl, rfl, (Nat.le_of_ble_eq_true rfl), (Nat.le_of_ble_eq_true rfl), r2260, (fun R c1 c2 c3 => c1 r2260)⟩)
  · have r2261 : 97 ≤ p2257.toInt := gj_nlt hc2259 (show Int32.toInt 97 = 97 by decide)
    have bp2257' : gB p2257 97 2147483647 := ⟨by omega, by omega⟩
    refine G_iload_n 0 dr_cX14_isLetter_6 rfl ?_
    refine G_bipush 122 dr_cX14_isLetter_7 (by decide +kernel) ?_
    refine G_icmp_gt 16 dr_cX14_isLetter_9 (by decide +kernel) (fun hc2262 => ?_) (fun hc2262 => ?_)
    · have r2263 : 122 < p2257.toInt := gj_ltL hc2262 (show Int32.toInt 122 = 122 by decide)
      have bp2257'' : gB p2257 123 2147483647 := ⟨by omega, by omega⟩
      refine G_iconst 0 dr_cX14_isLetter_16 (by decide +kernel) ?_
      exact G_zretA FieldType.boolean dr_cX14_isLetter_17 rfl rfl (Nat.le_of_ble_eq_true rfl) (Nat.le_of_ble_eq_true rfl) (Or.inr (Or.inl ⟨rfl, rfl, (Nat.le_of_ble_eq_true rfl), (Nat.le_of_ble_eq_true rfl), r2261, r2263, (fun R c1 c2 c3 => c2 r2261 r2263)⟩))
    · have r2264 : p2257.toInt ≤ 122 := gj_nltL hc2262 (show Int32.toInt 122 = 122 by decide)
      have bp2257'' : gB p2257 97 122 := ⟨by omega, by omega⟩
      refine G_iconst 1 dr_cX14_isLetter_12 (by decide +kernel) ?_
      refine G_goto 17 dr_cX14_isLetter_13 (by decide +kernel) ?_
      exact G_zretA FieldType.boolean dr_cX14_isLetter_17 rfl rfl (Nat.le_of_ble_eq_true rfl) (Nat.le_of_ble_eq_true rfl) (Or.inr (Or.inr (⟨rfl, rfl, (Nat.le_of_ble_eq_true rfl), (Nat.le_of_ble_eq_true rfl), r2261, r2264, (fun R c1 c2 c3 => c3 r2261 r2264)⟩)))
abbrev ky_2299_ArrayList_size : gKey := (cJx4a65c_size_8abf5, 1, "java/util/ArrayList", (some FieldType.int), [], "size", fun _ _ => True)
def pp_2299_ArrayList_size (D : va_G) (I : FieldType → ClassId) (P2290 : List Nat) (F2291 : Nat → va_E) (q2292 : Nat) (q2293 : Nat) (p2294 : Int32) (p2295 : Int32) (f2296 : Nat → Option Nat) (n2297 : Nat) : Option Value → va_W → Nat → Nat → Prop := fun r w dc ds => r = some (.int p2295) ∧ w = va_pl P2290 F2291 ∧ dc ≤ 0 ∧ ds ≤ 0
set_option maxRecDepth 100000 in
set_option maxHeartbeats 4000000 in
theorem cp_2299_ArrayList_size (l : Launch) (hl0 : l.stackTraces = false) (D : va_G) (I : FieldType → ClassId) (P2290 : List Nat) (F2291 : Nat → va_E) (q2292 : Nat) (q2293 : Nat) (p2294 : Int32) (p2295 : Int32) (f2296 : Nat → Option Nat) (n2297 : Nat) (hmq2292 : q2292 ∈ P2290) (hmq2293 : q2293 ∈ P2290) (heq2292 : F2291 q2292 = .inr (4, [.int p2294, .ref q2293, .int p2295])) (heq2293 : F2291 q2293 = .inl (I (.object "java/lang/Object"), n2297, .inr (.inr (.inr (.inr f2296))))) (bp2295 : gB p2295 0 16777216) (x2298 : ((n2297 : Int) ≤ 16777216)) : CtA (gV D I) l yJx4a65c_size_8abf5 cJx4a65c_size_8abf5 1 (some FieldType.int) 0 0 0 0 [.ref q2292] (va_pl P2290 F2291) (pp_2299_ArrayList_size D I P2290 F2291 q2292 q2293 p2294 p2295 f2296 n2297) gNA := by
  refine CtA_ofF hl0 (by decide +kernel) (Nat.le_of_ble_eq_true rfl) ?_
  have bp2294 := gB_any p2294
  refine G_aload_n 0 dr_cJx4a65c_size_8abf5_0 rfl ?_
  refine Gp_get 2 hmq2292 heq2292 dr_cJx4a65c_size_8abf5_1 (gk_Jx4a65c D I) (Nat.le_of_ble_eq_true rfl) wr_7_18 rfl ?_
  exact G_iretA dr_cJx4a65c_size_8abf5_4 rfl (Nat.le_of_ble_eq_true rfl) (Nat.le_of_ble_eq_true rfl) ⟨rfl, rfl, (Nat.le_of_ble_eq_true rfl), (Nat.le_of_ble_eq_true rfl)⟩
abbrev ky_2289_Code_row : gKey := (cX13_row, 2, "SpillForgeModel$Code", (some (FieldType.object "SpillForgeModel$Row")), [], "row", fun _ _ => True)
def pp_2289_Code_row (D : va_G) (I : FieldType → ClassId) (P2265 : List Nat) (F2266 : Nat → va_E) (q2267 : Nat) (q2268 : Nat) (q2269 : Nat) (qo2270 : Nat) (p2271 : Int32) (p2272 : Int32) (p2273 : Int32) (p2274 : Int32) (f2275 : Nat → Option Nat) (n2276 : Nat) (x2277 : Nat) (p2278 : Int32) (p2279 : Int32) (p2280 : Int32) (p2281 : Int32) (p2282 : Int32) (p2283 : Int32) (p2284 : Int32) : Option Value → va_W → Nat → Nat → Prop := fun r w dc ds => ∃ (F2373 : Nat → va_E) (o2371 : Int32), r = some (.ref x2277) ∧ w = va_pl P2265 F2373 ∧ rFr [x2277, q2267] P2265 F2266 F2373 ∧ F2373 q2267 = .inr (18, [.ref qo2270, .ref q2268, .int o2371, .int p2272]) ∧ F2373 q2268 = .inr (4, [.int p2273, .ref q2269, .int p2274]) ∧ F2373 q2269 = .inl (I (.object "java/lang/Object"), n2276, .inr (.inr (.inr (.inr f2275)))) ∧ F2373 x2277 = .inr (20, [.int p2278, .int 0, .int 0, .int 0, .int 0, .int 0, .int 0]) ∧ dc ≤ 0 ∧ ds ≤ 0 ∧ gB o2371 1 1000001 ∧ o2371.toInt = p2271.toInt + 1
set_option maxRecDepth 100000 in
set_option maxHeartbeats 4000000 in
theorem cp_2289_Code_row (l : Launch) (hl0 : l.stackTraces = false) (D : va_G) (I : FieldType → ClassId) (P2265 : List Nat) (F2266 : Nat → va_E) (q2267 : Nat) (q2268 : Nat) (q2269 : Nat) (qo2270 : Nat) (p2271 : Int32) (p2272 : Int32) (p2273 : Int32) (p2274 : Int32) (f2275 : Nat → Option Nat) (n2276 : Nat) (x2277 : Nat) (p2278 : Int32) (p2279 : Int32) (p2280 : Int32) (p2281 : Int32) (p2282 : Int32) (p2283 : Int32) (p2284 : Int32) (hmq2267 : q2267 ∈ P2265) (hmq2268 : q2268 ∈ P2265) (hmq2269 : q2269 ∈ P2265) (hmx2277 : x2277 ∈ P2265) (heq2267 : F2266 q2267 = .inr (18, [.ref qo2270, .ref q2268, .int p2271, .int p2272])) (heq2268 : F2266 q2268 = .inr (4, [.int p2273, .ref q2269, .int p2274])) (heq2269 : F2266 q2269 = .inl (I (.object "java/lang/Object"), n2276, .inr (.inr (.inr (.inr f2275))))) (hex2277 : F2266 x2277 = .inr (20, [.int p2278, .int p2279, .int p2280, .int p2281, .int p2282, .int p2283, .int p2284])) (bp2271 : gB p2271 0 1000000) (bp2272 : gB p2272 0 1000000) (bp2274 : gB p2274 0 1000000) (bp2278 : gB p2278 0 32) (bp2279 : gB p2279 0 1999) (bp2282 : gB p2282 0 1999) (bp2283 : gB p2283 0 1) (bp2284 : gB p2284 0 1) (x2285 : p2271.toInt < p2274.toInt) (x2286 : p2274.toInt ≤ (n2276 : Int)) (x2287 : f2275 p2271.toNatClampNeg = some x2277) (x2288 : ((n2276 : Int) ≤ 16777216)) : CtA (gV D I) l yX13_row cX13_row 2 (some (FieldType.object "SpillForgeModel$Row")) 3 64 0 0 [.ref q2267] (va_pl P2265 F2266) (pp_2289_Code_row D I P2265 F2266 q2267 q2268 q2269 qo2270 p2271 p2272 p2273 p2274 f2275 n2276 x2277 p2278 p2279 p2280 p2281 p2282 p2283 p2284) gNA := by
  refine CtA_of hl0 (by decide) (Nat.le_of_ble_eq_true rfl) ?_
  have bp2273 := gB_any p2273
  have bp2280 := gB_any p2280
  have bp2281 := gB_any p2281
  refine G_aload_n 0 dr_cX13_row_0 rfl ?_
  refine Gp_get 2 hmq2267 heq2267 dr_cX13_row_1 (gk_X13 D I) (Nat.le_of_ble_eq_true rfl) wr_7_32 rfl ?_
  refine G_aload_n 0 dr_cX13_row_4 rfl ?_
  refine Gp_get 1 hmq2267 heq2267 dr_cX13_row_5 (gk_X13 D I) (Nat.le_of_ble_eq_true rfl) wr_7_31 rfl ?_
  refine Gw_callV (As := []) (gV_ok D I) (cp_2299_ArrayList_size l hl0 D I P2265 F2266 q2268 q2269 p2273 p2274 f2275 n2276 hmq2268 hmq2269 heq2268 heq2269 (gB_w bp2274 (by decide) (by decide)) (by omega)) dr_cX13_row_8 ⟨wr_9_157, wr_1_18, wr_9_160, by decide, rfl, (Nat.le_of_ble_eq_true rfl), (Nat.le_of_ble_eq_true rfl)⟩ wr_9_158 wr_9_159 hmq2268 heq2268 rfl (show 0 + 0 ≤ 0 by first | omega | decide) (show 0 + 0 ≤ 0 by first | omega | decide) (Nat.le_of_ble_eq_true rfl) (fun r2303 w2304 dc2300 ds2301 hp2302 => ?_) (fun _ _ _ _ _ z => z.elim)
  obtain ⟨rfl, rfl, hdc, hds⟩ := hp2302
  change G _ _ _ _ _ _ _ (.int p2274 :: _) _ _ _
  refine G_widen (cs' := 0) (sl' := 0) (by omega) (by omega) ?_
  refine G_icmp_ne 29 dr_cX13_row_11 (by decide +kernel) (fun hc2305 => ?_) (fun hc => absurd (show False by have := gC_eq hc; omega) not_false)
  have r2307 : p2271.toInt ≠ p2274.toInt := gC_ne hc2305
  refine G_aload_n 0 dr_cX13_row_29 rfl ?_
  refine Gp_get 1 hmq2267 heq2267 dr_cX13_row_30 (gk_X13 D I) (Nat.le_of_ble_eq_true rfl) wr_7_31 rfl ?_
  refine G_aload_n 0 dr_cX13_row_33 rfl ?_
  refine Gp_get 2 hmq2267 heq2267 dr_cX13_row_34 (gk_X13 D I) (Nat.le_of_ble_eq_true rfl) wr_7_32 rfl ?_
  refine Gw_callV (As := [.int p2271]) (gV_ok D I) (cp_22_ArrayList_get l hl0 D I P2265 F2266 q2268 q2269 p2271 p2273 p2274 f2275 n2276 x2277 hmq2268 hmq2269 heq2268 heq2269 (gB_w bp2271 (by decide) (by decide)) (gB_w bp2274 (by decide) (by decide)) (by omega) (by omega) (by assumption) (by omega)) dr_cX13_row_37 ⟨wr_10_62, wr_1_18, wr_10_65, by decide, rfl, (Nat.le_of_ble_eq_true rfl), (Nat.le_of_ble_eq_true rfl)⟩ wr_10_63 wr_10_64 hmq2268 heq2268 rfl (show 0 + 0 ≤ 0 by first | omega | decide) (show 0 + 0 ≤ 0 by first | omega | decide) (Nat.le_of_ble_eq_true rfl) (fun r2311 w2312 dc2308 ds2309 hp2310 => ?_) (fun _ _ _ _ _ z => z.elim)
  obtain ⟨rfl, rfl, hdc, hds, ht2313⟩ := hp2310
  change G _ _ _ _ _ _ _ (.ref x2277 :: _) _ _ _
  refine G_widen (cs' := 0) (sl' := 0) (by omega) (by omega) ?_
  refine Gp_cast hmx2277 hex2277 rfl dr_cX13_row_40 wr_10_83 (gr_cast 1 rfl) ?_
  refine G_astore_n (L' := [(1, .ref x2277), (0, .ref q2267)]) dr_cX13_row_43 (Nat.le_of_ble_eq_true rfl) rfl ?_
  refine G_aload_n 1 dr_cX13_row_44 rfl ?_
  refine G_dup dr_cX13_row_45 rfl ?_
  refine Gp_get 2 hmq2267 heq2267 dr_cX13_row_46 (gk_X13 D I) (Nat.le_of_ble_eq_true rfl) wr_7_32 rfl ?_
  refine G_iconst 1 dr_cX13_row_49 (by decide +kernel) ?_
  refine G_iadd dr_cX13_row_50 (G_nam fun z2314 hz2314 => ?_)
  have ez2314 : z2314.toInt = p2271.toInt + 1 := by rw [gI_add hz2314 bp2271 (gBl (show Int32.toInt 1 = 1 by decide)) (by decide) (by decide), show Int32.toInt 1 = 1 from by decide]
  have bz2314 : gB z2314 1 1000001 := gB_add (gI_add hz2314 bp2271 (gBl (show Int32.toInt 1 = 1 by decide)) (by decide) (by decide)) bp2271 (gBl (show Int32.toInt 1 = 1 by decide)) (by decide) (by decide)
  refine Gp_put 2 hmq2267 heq2267 dr_cX13_row_51 (gk_X13 D I) (Nat.le_of_ble_eq_true rfl) wr_7_32 rfl rfl rfl (Nat.le_of_ble_eq_true rfl) (fun F2315 e2316 n2317 => ?_)
  have he2318 : F2315 q2268 = .inr (4, [.int p2273, .ref q2269, .int p2274]) := (n2317 q2268 (rn_oo heq2268 heq2267 (by decide))).trans heq2268
  have he2319 : F2315 q2269 = .inl (I (.object "java/lang/Object"), n2276, .inr (.inr (.inr (.inr f2275)))) := (n2317 q2269 (rn_ao heq2269 heq2267)).trans heq2269
  have he2320 : F2315 x2277 = .inr (20, [.int p2278, .int p2279, .int p2280, .int p2281, .int p2282, .int p2283, .int p2284]) := (n2317 x2277 (rn_oo hex2277 heq2267 (by decide))).trans hex2277
  have he2321 : F2315 q2267 = .inr (18, [.ref qo2270, .ref q2268, .int z2314, .int p2272]) := e2316
  have hfr2322 : rFr [q2267] P2265 F2266 F2315 := rFr_put (rFr_rf (W := []) (P := P2265) (F := F2266)) n2317
  refine G_aload_n 0 dr_cX13_row_54 rfl ?_
  refine G_iconst 0 dr_cX13_row_55 (by decide +kernel) ?_
  refine Gp_put 5 hmx2277 he2320 dr_cX13_row_56 (gk_X15 D I) (Nat.le_of_ble_eq_true rfl) wr_9_196 rfl rfl rfl (Nat.le_of_ble_eq_true rfl) (fun F2323 e2324 n2325 => ?_)
  have he2326 : F2323 q2267 = .inr (18, [.ref qo2270, .ref q2268, .int z2314, .int p2272]) := (n2325 q2267 (rn_oo he2321 he2320 (by decide))).trans he2321
  have he2327 : F2323 q2268 = .inr (4, [.int p2273, .ref q2269, .int p2274]) := (n2325 q2268 (rn_oo he2318 he2320 (by decide))).trans he2318
  have he2328 : F2323 q2269 = .inl (I (.object "java/lang/Object"), n2276, .inr (.inr (.inr (.inr f2275)))) := (n2325 q2269 (rn_ao he2319 he2320)).trans he2319
  have he2329 : F2323 x2277 = .inr (20, [.int p2278, .int p2279, .int p2280, .int p2281, .int p2282, .int 0, .int p2284]) := e2324
  have hfr2330 : rFr [x2277, q2267] P2265 F2266 F2323 := rFr_put hfr2322 n2325
  refine G_aload_n 0 dr_cX13_row_59 rfl ?_
  refine G_iconst 0 dr_cX13_row_60 (by decide +kernel) ?_
  refine Gp_put 6 hmx2277 he2329 dr_cX13_row_61 (gk_X15 D I) (Nat.le_of_ble_eq_true rfl) wr_9_200 rfl rfl rfl (Nat.le_of_ble_eq_true rfl) (fun F2331 e2332 n2333 => ?_)
  have he2334 : F2331 q2267 = .inr (18, [.ref qo2270, .ref q2268, .int z2314, .int p2272]) := (n2333 q2267 (rn_oo he2326 he2329 (by decide))).trans he2326
  have he2335 : F2331 q2268 = .inr (4, [.int p2273, .ref q2269, .int p2274]) := (n2333 q2268 (rn_oo he2327 he2329 (by decide))).trans he2327
  have he2336 : F2331 q2269 = .inl (I (.object "java/lang/Object"), n2276, .inr (.inr (.inr (.inr f2275)))) := (n2333 q2269 (rn_ao he2328 he2329)).trans he2328
  have he2337 : F2331 x2277 = .inr (20, [.int p2278, .int p2279, .int p2280, .int p2281, .int p2282, .int 0, .int 0]) := e2332
  have hfr2338 : rFr [x2277, q2267] P2265 F2266 F2331 := rFr_put' List.mem_cons_self hfr2330 n2333
  refine G_aload_n 0 dr_cX13_row_64 rfl ?_
  refine G_iconst 0 dr_cX13_row_65 (by decide +kernel) ?_
  refine Gp_put 2 hmx2277 he2337 dr_cX13_row_66 (gk_X15 D I) (Nat.le_of_ble_eq_true rfl) wr_9_184 rfl rfl rfl (Nat.le_of_ble_eq_true rfl) (fun F2339 e2340 n2341 => ?_)
  have he2342 : F2339 q2267 = .inr (18, [.ref qo2270, .ref q2268, .int z2314, .int p2272]) := (n2341 q2267 (rn_oo he2334 he2337 (by decide))).trans he2334
  have he2343 : F2339 q2268 = .inr (4, [.int p2273, .ref q2269, .int p2274]) := (n2341 q2268 (rn_oo he2335 he2337 (by decide))).trans he2335
  have he2344 : F2339 q2269 = .inl (I (.object "java/lang/Object"), n2276, .inr (.inr (.inr (.inr f2275)))) := (n2341 q2269 (rn_ao he2336 he2337)).trans he2336
  have he2345 : F2339 x2277 = .inr (20, [.int p2278, .int p2279, .int 0, .int p2281, .int p2282, .int 0, .int 0]) := e2340
  have hfr2346 : rFr [x2277, q2267] P2265 F2266 F2339 := rFr_put' List.mem_cons_self hfr2338 n2341
  refine G_aload_n 0 dr_cX13_row_69 rfl ?_
  refine G_iconst 0 dr_cX13_row_70 (by decide +kernel) ?_
  refine Gp_put 3 hmx2277 he2345 dr_cX13_row_71 (gk_X15 D I) (Nat.le_of_ble_eq_true rfl) wr_9_188 rfl rfl rfl (Nat.le_of_ble_eq_true rfl) (fun F2347 e2348 n2349 => ?_)
  have he2350 : F2347 q2267 = .inr (18, [.ref qo2270, .ref q2268, .int z2314, .int p2272]) := (n2349 q2267 (rn_oo he2342 he2345 (by decide))).trans he2342
  have he2351 : F2347 q2268 = .inr (4, [.int p2273, .ref q2269, .int p2274]) := (n2349 q2268 (rn_oo he2343 he2345 (by decide))).trans he2343
  have he2352 : F2347 q2269 = .inl (I (.object "java/lang/Object"), n2276, .inr (.inr (.inr (.inr f2275)))) := (n2349 q2269 (rn_ao he2344 he2345)).trans he2344
  have he2353 : F2347 x2277 = .inr (20, [.int p2278, .int p2279, .int 0, .int 0, .int p2282, .int 0, .int 0]) := e2348
  have hfr2354 : rFr [x2277, q2267] P2265 F2266 F2347 := rFr_put' List.mem_cons_self hfr2346 n2349
  refine G_aload_n 0 dr_cX13_row_74 rfl ?_
  refine G_iconst 0 dr_cX13_row_75 (by decide +kernel) ?_
  refine Gp_put 1 hmx2277 he2353 dr_cX13_row_76 (gk_X15 D I) (Nat.le_of_ble_eq_true rfl) wr_9_180 rfl rfl rfl (Nat.le_of_ble_eq_true rfl) (fun F2355 e2356 n2357 => ?_)
  have he2358 : F2355 q2267 = .inr (18, [.ref qo2270, .ref q2268, .int z2314, .int p2272]) := (n2357 q2267 (rn_oo he2350 he2353 (by decide))).trans he2350
  have he2359 : F2355 q2268 = .inr (4, [.int p2273, .ref q2269, .int p2274]) := (n2357 q2268 (rn_oo he2351 he2353 (by decide))).trans he2351
  have he2360 : F2355 q2269 = .inl (I (.object "java/lang/Object"), n2276, .inr (.inr (.inr (.inr f2275)))) := (n2357 q2269 (rn_ao he2352 he2353)).trans he2352
  have he2361 : F2355 x2277 = .inr (20, [.int p2278, .int 0, .int 0, .int 0, .int p2282, .int 0, .int 0]) := e2356
  have hfr2362 : rFr [x2277, q2267] P2265 F2266 F2355 := rFr_put' List.mem_cons_self hfr2354 n2357
  refine G_aload_n 0 dr_cX13_row_79 rfl ?_
  refine G_iconst 0 dr_cX13_row_80 (by decide +kernel) ?_
  refine Gp_put 4 hmx2277 he2361 dr_cX13_row_81 (gk_X15 D I) (Nat.le_of_ble_eq_true rfl) wr_9_192 rfl rfl rfl (Nat.le_of_ble_eq_true rfl) (fun F2363 e2364 n2365 => ?_)
  have he2366 : F2363 q2267 = .inr (18, [.ref qo2270, .ref q2268, .int z2314, .int p2272]) := (n2365 q2267 (rn_oo he2358 he2361 (by decide))).trans he2358
  have he2367 : F2363 q2268 = .inr (4, [.int p2273, .ref q2269, .int p2274]) := (n2365 q2268 (rn_oo he2359 he2361 (by decide))).trans he2359
  have he2368 : F2363 q2269 = .inl (I (.object "java/lang/Object"), n2276, .inr (.inr (.inr (.inr f2275)))) := (n2365 q2269 (rn_ao he2360 he2361)).trans he2360
  have he2369 : F2363 x2277 = .inr (20, [.int p2278, .int 0, .int 0, .int 0, .int 0, .int 0, .int 0]) := e2364
  have hfr2370 : rFr [x2277, q2267] P2265 F2266 F2363 := rFr_put' List.mem_cons_self hfr2362 n2365
  refine G_aload_n 0 dr_cX13_row_84 rfl ?_
  exact G_aretA (FieldType.object "SpillForgeModel$Row") dr_cX13_row_85 rfl (by first | exact Or.inl ⟨_, rfl⟩ | exact Or.inr ⟨_, rfl⟩) (Or.inr ⟨_, rfl⟩) (Nat.le_of_ble_eq_true rfl) (Nat.le_of_ble_eq_true rfl) ⟨F2363, z2314, rfl, rfl, hfr2370, he2366, he2367, he2368, he2369, (Nat.le_of_ble_eq_true rfl), (Nat.le_of_ble_eq_true rfl), bz2314, (by have qa0 : Int32.toInt 0 = 0 := (by decide); omega)⟩
abbrev ky_2427_Row_init : gKey := (cX15_init, 1, "SpillForgeModel$Row", none, [], "<init>", fun _ _ => True)
def pp_2427_Row_init (D : va_G) (I : FieldType → ClassId) (P2417 : List Nat) (F2418 : Nat → va_E) (q2419 : Nat) (p2420 : Int32) (p2421 : Int32) (p2422 : Int32) (p2423 : Int32) (p2424 : Int32) (p2425 : Int32) (p2426 : Int32) : Option Value → va_W → Nat → Nat → Prop := fun r w dc ds => r = none ∧ w = va_pl P2417 F2418 ∧ dc ≤ 0 ∧ ds ≤ 0
set_option maxRecDepth 100000 in
set_option maxHeartbeats 4000000 in
theorem cp_2427_Row_init (l : Launch) (hl0 : l.stackTraces = false) (D : va_G) (I : FieldType → ClassId) (P2417 : List Nat) (F2418 : Nat → va_E) (q2419 : Nat) (p2420 : Int32) (p2421 : Int32) (p2422 : Int32) (p2423 : Int32) (p2424 : Int32) (p2425 : Int32) (p2426 : Int32) (hmq2419 : q2419 ∈ P2417) (heq2419 : F2418 q2419 = .inr (20, [.int p2420, .int p2421, .int p2422, .int p2423, .int p2424, .int p2425, .int p2426])) (bp2420 : gB p2420 0 32) (bp2421 : gB p2421 0 1999) (bp2424 : gB p2424 0 1999) (bp2425 : gB p2425 0 1) (bp2426 : gB p2426 0 1) : CtA (gV D I) l yX15_init cX15_init 1 none 1 12 0 0 [.ref q2419] (va_pl P2417 F2418) (pp_2427_Row_init D I P2417 F2418 q2419 p2420 p2421 p2422 p2423 p2424 p2425 p2426) gNA := by
  refine CtA_of hl0 (by decide) (Nat.le_of_ble_eq_true rfl) ?_
  have bp2422 := gB_any p2422
  have bp2423 := gB_any p2423
  refine G_aload_n 0 dr_cX15_init_0 rfl ?_
  refine G_obj dr_cX15_init_1 wr_9_174 wr_1_51 wr_1_52 (Nat.le_of_ble_eq_true rfl) (Nat.le_of_ble_eq_true rfl) ?_
  exact G_vretA dr_cX15_init_4 rfl (Nat.le_of_ble_eq_true rfl) (Nat.le_of_ble_eq_true rfl) ⟨rfl, rfl, (Nat.le_of_ble_eq_true rfl), (Nat.le_of_ble_eq_true rfl)⟩
abbrev ky_2390_Code_row : gKey := (cX13_row, 2, "SpillForgeModel$Code", (some (FieldType.object "SpillForgeModel$Row")), [], "row", fun _ _ => True)
def pp_2390_Code_row (D : va_G) (I : FieldType → ClassId) (P2374 : List Nat) (F2375 : Nat → va_E) (q2376 : Nat) (q2377 : Nat) (q2378 : Nat) (qo2379 : Nat) (p2380 : Int32) (p2381 : Int32) (p2382 : Int32) (p2383 : Int32) (f2384 : Nat → Option Nat) (n2385 : Nat) : Option Value → va_W → Nat → Nat → Prop := fun r w dc ds => ∃ (P2521 : List Nat) (F2522 : Nat → va_E) (o2516 : Int32) (q2517 : Nat) (o2518 : Int32) (o2519 : Int32) (f2520 : Nat → Option Nat), r = some (.ref q2517) ∧ w = va_pl P2521 F2522 ∧ rSub P2374 P2521 ∧ rFr [q2376, q2377, q2378] P2374 F2375 F2522 ∧ F2522 q2376 = .inr (18, [.ref qo2379, .ref q2377, .int o2516, .int p2381]) ∧ F2522 q2377 = .inr (4, [.int o2518, .ref q2378, .int o2519]) ∧ F2522 q2517 = .inr (20, [.int 0, .int 0, .int 0, .int 0, .int 0, .int 0, .int 0]) ∧ F2522 q2378 = .inl (I (.object "java/lang/Object"), n2385, .inr (.inr (.inr (.inr f2520)))) ∧ q2517 ∈ P2521 ∧ q2517 ∉ P2374 ∧ dc ≤ 1 ∧ ds ≤ 7 ∧ gB o2516 1 1000001 ∧ gB o2519 1 16777217 ∧ o2516.toInt = p2380.toInt + 1 ∧ o2519.toInt = p2383.toInt + 1 ∧ ((∀ j : Nat, (j : Int) < p2383.toInt → f2520 j = f2384 j) ∧ f2520 p2383.toInt.toNat = some q2517) ∧ rSrcX f2520 f2384 q2517
set_option maxRecDepth 100000 in
set_option maxHeartbeats 4000000 in
theorem cp_2390_Code_row (l : Launch) (hl0 : l.stackTraces = false) (D : va_G) (I : FieldType → ClassId) (P2374 : List Nat) (F2375 : Nat → va_E) (q2376 : Nat) (q2377 : Nat) (q2378 : Nat) (qo2379 : Nat) (p2380 : Int32) (p2381 : Int32) (p2382 : Int32) (p2383 : Int32) (f2384 : Nat → Option Nat) (n2385 : Nat) (hmq2376 : q2376 ∈ P2374) (hmq2377 : q2377 ∈ P2374) (hmq2378 : q2378 ∈ P2374) (heq2376 : F2375 q2376 = .inr (18, [.ref qo2379, .ref q2377, .int p2380, .int p2381])) (heq2377 : F2375 q2377 = .inr (4, [.int p2382, .ref q2378, .int p2383])) (heq2378 : F2375 q2378 = .inl (I (.object "java/lang/Object"), n2385, .inr (.inr (.inr (.inr f2384))))) (bp2380 : gB p2380 0 1000000) (bp2381 : gB p2381 0 1000000) (bp2383 : gB p2383 0 1000000) (x2386 : p2380.toInt = p2383.toInt) (x2387 : p2383.toInt < (n2385 : Int)) (x2388 : rEl P2374 F2375 f2384) (x2389 : ((n2385 : Int) ≤ 16777216)) : CtA (gV D I) l yX13_row cX13_row 2 (some (FieldType.object "SpillForgeModel$Row")) 3 64 1 7 [.ref q2376] (va_pl P2374 F2375) (pp_2390_Code_row D I P2374 F2375 q2376 q2377 q2378 qo2379 p2380 p2381 p2382 p2383 f2384 n2385) gNA := by
  refine CtA_of hl0 (by decide) (Nat.le_of_ble_eq_true rfl) ?_
  have bp2382 := gB_any p2382
  refine G_aload_n 0 dr_cX13_row_0 rfl ?_
  refine Gp_get 2 hmq2376 heq2376 dr_cX13_row_1 (gk_X13 D I) (Nat.le_of_ble_eq_true rfl) wr_7_32 rfl ?_
  refine G_aload_n 0 dr_cX13_row_4 rfl ?_
  refine Gp_get 1 hmq2376 heq2376 dr_cX13_row_5 (gk_X13 D I) (Nat.le_of_ble_eq_true rfl) wr_7_31 rfl ?_
  refine Gw_callV (As := []) (gV_ok D I) (cp_2299_ArrayList_size l hl0 D I P2374 F2375 q2377 q2378 p2382 p2383 f2384 n2385 hmq2377 hmq2378 heq2377 heq2378 (gB_w bp2383 (by decide) (by decide)) (by omega)) dr_cX13_row_8 ⟨wr_9_157, wr_1_18, wr_9_160, by decide, rfl, (Nat.le_of_ble_eq_true rfl), (Nat.le_of_ble_eq_true rfl)⟩ wr_9_158 wr_9_159 hmq2377 heq2377 rfl (show 0 + 0 ≤ 1 by first | omega | decide) (show 0 + 0 ≤ 7 by first | omega | decide) (Nat.le_of_ble_eq_true rfl) (fun r2394 w2395 dc2391 ds2392 hp2393 => ?_) (fun _ _ _ _ _ z => z.elim)
  obtain ⟨rfl, rfl, hdc, hds⟩ := hp2393
  change G _ _ _ _ _ _ _ (.int p2383 :: _) _ _ _
  refine G_widen (cs' := 0) (sl' := 0) (by omega) (by omega) ?_
  refine G_icmp_ne 29 dr_cX13_row_11 (by decide +kernel) (fun hc => absurd (show False by have := gC_ne hc; omega) not_false) (fun hc2396 => ?_)
  have r2398 : p2380.toInt = p2383.toInt := gC_eq hc2396
  refine G_aload_n 0 dr_cX13_row_14 rfl ?_
  refine Gp_get 1 hmq2376 heq2376 dr_cX13_row_15 (gk_X13 D I) (Nat.le_of_ble_eq_true rfl) wr_7_31 rfl ?_
  refine G_new [.int 0, .int 0, .int 0, .int 0, .int 0, .int 0, .int 0] dr_cX13_row_18 (gk_X15 D I) wr_10_83 wr_9_170 wr_1_39 (gfs_X15) (show 0 + 1 ≤ 1 by first | omega | decide) (show 0 + 7 ≤ 7 by first | omega | decide) (fun q2399 => Gp_in (fun P2400 F2401 hq2402 hP2403 e2404 n2405 => ?_))
  refine G_widen (cs' := 1) (sl' := 7) (by omega) (by omega) ?_
  have he2406 : F2401 q2376 = .inr (18, [.ref qo2379, .ref q2377, .int p2380, .int p2381]) := (n2405 q2376 (fun h => hq2402 (h ▸ hmq2376))).trans heq2376
  have he2407 : F2401 q2377 = .inr (4, [.int p2382, .ref q2378, .int p2383]) := (n2405 q2377 (fun h => hq2402 (h ▸ hmq2377))).trans heq2377
  have he2408 : F2401 q2378 = .inl (I (.object "java/lang/Object"), n2385, .inr (.inr (.inr (.inr f2384)))) := (n2405 q2378 (fun h => hq2402 (h ▸ hmq2378))).trans heq2378
  have he2409 : F2401 q2399 = .inr (20, [.int 0, .int 0, .int 0, .int 0, .int 0, .int 0, .int 0]) := e2404
  have hm2410 : q2376 ∈ P2400 := (hP2403 q2376).mpr (Or.inl hmq2376)
  have hm2411 : q2377 ∈ P2400 := (hP2403 q2377).mpr (Or.inl hmq2377)
  have hm2412 : q2378 ∈ P2400 := (hP2403 q2378).mpr (Or.inl hmq2378)
  have hm2413 : q2399 ∈ P2400 := (hP2403 q2399).mpr (Or.inr rfl)
  have hq2414 : q2399 ∉ P2374 := fun z => hq2402 ((rSub_rf (P := P2374)) q2399 z)
  have hfr2415 : rFr [] P2374 F2375 F2401 := rFr_new (rSub_rf (P := P2374)) hq2402 (rFr_rf (W := []) (P := P2374) (F := F2375)) n2405
  have hsb2416 : rSub P2374 P2400 := rSub_new (rSub_rf (P := P2374)) hP2403
  refine G_dup dr_cX13_row_21 rfl ?_
  refine Gw_callIN (As := []) (gV_ok D I) (cp_2427_Row_init l hl0 D I P2400 F2401 q2399 0 0 0 0 0 0 0 hm2413 he2409 (gB_w (gBl (show Int32.toInt 0 = 0 by decide)) (by decide) (by decide)) (gB_w (gBl (show Int32.toInt 0 = 0 by decide)) (by decide) (by decide)) (gB_w (gBl (show Int32.toInt 0 = 0 by decide)) (by decide) (by decide)) (gB_w (gBl (show Int32.toInt 0 = 0 by decide)) (by decide) (by decide)) (gB_w (gBl (show Int32.toInt 0 = 0 by decide)) (by decide) (by decide))) dr_cX13_row_22 ⟨(fun _ _ _ h => gn_w 80 rfl h), wr_1_39, wr_9_173, by decide, rfl, (Nat.le_of_ble_eq_true rfl), (Nat.le_of_ble_eq_true rfl)⟩ wr_9_172 rfl (show 1 + 0 ≤ 1 by first | omega | decide) (show 7 + 0 ≤ 7 by first | omega | decide) (Nat.le_of_ble_eq_true rfl) (fun r2431 w2432 dc2428 ds2429 hp2430 => ?_)
  obtain ⟨rfl, rfl, hdc, hds⟩ := hp2430
  change G _ _ _ _ _ _ _ _ _ _ _
  refine G_widen (cs' := 1) (sl' := 7) (by omega) (by omega) ?_
  refine Gw_callV (As := [.ref q2399]) (gV_ok D I) (cp_88_ArrayList_add l hl0 D I P2400 F2401 q2377 q2399 q2378 p2382 p2383 0 0 0 0 0 0 0 f2384 n2385 hm2411 hm2413 hm2412 he2407 he2409 he2408 (gB_w bp2383 (by decide) (by decide)) (gB_w (gBl (show Int32.toInt 0 = 0 by decide)) (by decide) (by decide)) (gB_w (gBl (show Int32.toInt 0 = 0 by decide)) (by decide) (by decide)) (gB_w (gBl (show Int32.toInt 0 = 0 by decide)) (by decide) (by decide)) (gB_w (gBl (show Int32.toInt 0 = 0 by decide)) (by decide) (by decide)) (gB_w (gBl (show Int32.toInt 0 = 0 by decide)) (by decide) (by decide)) (by have qa0 : Int32.toInt 0 = 0 := (by decide); omega) (rEl_frG (rEl_src x2388 rSrc_rf) hsb2416 hfr2415 rNg_n) (by have qa0 : Int32.toInt 0 = 0 := (by decide); omega)) dr_cX13_row_25 ⟨wr_10_3, wr_1_18, wr_10_6, by decide, rfl, (Nat.le_of_ble_eq_true rfl), (Nat.le_of_ble_eq_true rfl)⟩ wr_10_4 wr_10_5 hm2411 he2407 rfl (show 1 + 0 ≤ 1 by first | omega | decide) (show 7 + 0 ≤ 7 by first | omega | decide) (Nat.le_of_ble_eq_true rfl) (fun r2436 w2437 dc2433 ds2434 hp2435 => ?_) (fun _ _ _ _ _ z => z.elim)
  obtain ⟨F2444, o2438, o2439, f2440, rfl, rfl, hfr2446, he2447, he2448, he2449, hdc, hds, bo2439, x2441, x2442, x2443⟩ := hp2435
  have he2450 : F2444 q2376 = .inr (18, [.ref qo2379, .ref q2377, .int p2380, .int p2381]) := (hfr2446 q2376 hm2410 (nm_c (rn_oo he2406 he2407 (by decide)) (nm_c (rn_oa he2406 he2408) nm_n))).trans he2406
  have hfr2451 : rFr [q2377, q2378] P2374 F2375 F2444 := rFr_call hsb2416 hfr2415 hfr2446 (fun b hb hn => ⟨nm_n, (nm_c (fun e => hn (e ▸ List.mem_cons_self)) (nm_c (fun e => hn (e ▸ (List.mem_cons_of_mem _ List.mem_cons_self))) nm_n))⟩)
  have bo2438 := gB_any o2438
  change G _ _ _ _ _ _ _ (.int 1 :: _) _ _ _
  refine G_widen (cs' := 1) (sl' := 7) (by omega) (by omega) ?_
  have hx2452 : f2440 p2380.toNatClampNeg = some q2399 := by show f2440 p2380.toInt.toNat = _; rw [show p2380.toInt = p2383.toInt by omega]; exact x2442.2
  refine G_pop dr_cX13_row_28 rfl ?_
  refine G_aload_n 0 dr_cX13_row_29 rfl ?_
  refine Gp_get 1 hm2410 he2450 dr_cX13_row_30 (gk_X13 D I) (Nat.le_of_ble_eq_true rfl) wr_7_31 rfl ?_
  refine G_aload_n 0 dr_cX13_row_33 rfl ?_
  refine Gp_get 2 hm2410 he2450 dr_cX13_row_34 (gk_X13 D I) (Nat.le_of_ble_eq_true rfl) wr_7_32 rfl ?_
  refine Gw_callV (As := [.int p2380]) (gV_ok D I) (cp_22_ArrayList_get l hl0 D I P2400 F2444 q2377 q2378 p2380 o2438 o2439 f2440 n2385 q2399 hm2411 hm2412 he2447 he2449 (gB_w bp2380 (by decide) (by decide)) ⟨by omega, by omega⟩ (by have qa0 : Int32.toInt 0 = 0 := (by decide); omega) (by have qa0 : Int32.toInt 0 = 0 := (by decide); omega) (by assumption) (by have qa0 : Int32.toInt 0 = 0 := (by decide); omega)) dr_cX13_row_37 ⟨wr_10_62, wr_1_18, wr_10_65, by decide, rfl, (Nat.le_of_ble_eq_true rfl), (Nat.le_of_ble_eq_true rfl)⟩ wr_10_63 wr_10_64 hm2411 he2447 rfl (show 1 + 0 ≤ 1 by first | omega | decide) (show 7 + 0 ≤ 7 by first | omega | decide) (Nat.le_of_ble_eq_true rfl) (fun r2456 w2457 dc2453 ds2454 hp2455 => ?_) (fun _ _ _ _ _ z => z.elim)
  obtain ⟨rfl, rfl, hdc, hds, ht2458⟩ := hp2455
  change G _ _ _ _ _ _ _ (.ref q2399 :: _) _ _ _
  refine G_widen (cs' := 1) (sl' := 7) (by omega) (by omega) ?_
  refine Gp_cast hm2413 he2448 rfl dr_cX13_row_40 wr_10_83 (gr_cast 1 rfl) ?_
  refine G_astore_n (L' := [(1, .ref q2399), (0, .ref q2376)]) dr_cX13_row_43 (Nat.le_of_ble_eq_true rfl) rfl ?_
  refine G_aload_n 1 dr_cX13_row_44 rfl ?_
  refine G_dup dr_cX13_row_45 rfl ?_
  refine Gp_get 2 hm2410 he2450 dr_cX13_row_46 (gk_X13 D I) (Nat.le_of_ble_eq_true rfl) wr_7_32 rfl ?_
  refine G_iconst 1 dr_cX13_row_49 (by decide +kernel) ?_
  refine G_iadd dr_cX13_row_50 (G_nam fun z2459 hz2459 => ?_)
  have ez2459 : z2459.toInt = p2380.toInt + 1 := by rw [gI_add hz2459 bp2380 (gBl (show Int32.toInt 1 = 1 by decide)) (by decide) (by decide), show Int32.toInt 1 = 1 from by decide]
  have bz2459 : gB z2459 1 1000001 := gB_add (gI_add hz2459 bp2380 (gBl (show Int32.toInt 1 = 1 by decide)) (by decide) (by decide)) bp2380 (gBl (show Int32.toInt 1 = 1 by decide)) (by decide) (by decide)
  refine Gp_put 2 hm2410 he2450 dr_cX13_row_51 (gk_X13 D I) (Nat.le_of_ble_eq_true rfl) wr_7_32 rfl rfl rfl (Nat.le_of_ble_eq_true rfl) (fun F2460 e2461 n2462 => ?_)
  have he2463 : F2460 q2377 = .inr (4, [.int o2438, .ref q2378, .int o2439]) := (n2462 q2377 (rn_oo he2447 he2450 (by decide))).trans he2447
  have he2464 : F2460 q2399 = .inr (20, [.int 0, .int 0, .int 0, .int 0, .int 0, .int 0, .int 0]) := (n2462 q2399 (fun h => hq2414 (h ▸ hmq2376))).trans he2448
  have he2465 : F2460 q2378 = .inl (I (.object "java/lang/Object"), n2385, .inr (.inr (.inr (.inr f2440)))) := (n2462 q2378 (rn_ao he2449 he2450)).trans he2449
  have he2466 : F2460 q2376 = .inr (18, [.ref qo2379, .ref q2377, .int z2459, .int p2381]) := e2461
  have hfr2467 : rFr [q2376, q2377, q2378] P2374 F2375 F2460 := rFr_put hfr2451 n2462
  refine G_aload_n 0 dr_cX13_row_54 rfl ?_
  refine G_iconst 0 dr_cX13_row_55 (by decide +kernel) ?_
  refine Gp_put 5 hm2413 he2464 dr_cX13_row_56 (gk_X15 D I) (Nat.le_of_ble_eq_true rfl) wr_9_196 rfl rfl rfl (Nat.le_of_ble_eq_true rfl) (fun F2468 e2469 n2470 => ?_)
  have he2471 : F2468 q2376 = .inr (18, [.ref qo2379, .ref q2377, .int z2459, .int p2381]) := (n2470 q2376 (fun h => hq2414 (h ▸ hmq2376))).trans he2466
  have he2472 : F2468 q2377 = .inr (4, [.int o2438, .ref q2378, .int o2439]) := (n2470 q2377 (fun h => hq2414 (h ▸ hmq2377))).trans he2463
  have he2473 : F2468 q2378 = .inl (I (.object "java/lang/Object"), n2385, .inr (.inr (.inr (.inr f2440)))) := (n2470 q2378 (fun h => hq2414 (h ▸ hmq2378))).trans he2465
  have he2474 : F2468 q2399 = .inr (20, [.int 0, .int 0, .int 0, .int 0, .int 0, .int 0, .int 0]) := e2469
  have hfr2475 : rFr [q2376, q2377, q2378] P2374 F2375 F2468 := rFr_newp hq2414 hfr2467 n2470
  refine G_aload_n 0 dr_cX13_row_59 rfl ?_
  refine G_iconst 0 dr_cX13_row_60 (by decide +kernel) ?_
  refine Gp_put 6 hm2413 he2474 dr_cX13_row_61 (gk_X15 D I) (Nat.le_of_ble_eq_true rfl) wr_9_200 rfl rfl rfl (Nat.le_of_ble_eq_true rfl) (fun F2476 e2477 n2478 => ?_)
  have he2479 : F2476 q2376 = .inr (18, [.ref qo2379, .ref q2377, .int z2459, .int p2381]) := (n2478 q2376 (fun h => hq2414 (h ▸ hmq2376))).trans he2471
  have he2480 : F2476 q2377 = .inr (4, [.int o2438, .ref q2378, .int o2439]) := (n2478 q2377 (fun h => hq2414 (h ▸ hmq2377))).trans he2472
  have he2481 : F2476 q2378 = .inl (I (.object "java/lang/Object"), n2385, .inr (.inr (.inr (.inr f2440)))) := (n2478 q2378 (fun h => hq2414 (h ▸ hmq2378))).trans he2473
  have he2482 : F2476 q2399 = .inr (20, [.int 0, .int 0, .int 0, .int 0, .int 0, .int 0, .int 0]) := e2477
  have hfr2483 : rFr [q2376, q2377, q2378] P2374 F2375 F2476 := rFr_newp hq2414 hfr2475 n2478
  refine G_aload_n 0 dr_cX13_row_64 rfl ?_
  refine G_iconst 0 dr_cX13_row_65 (by decide +kernel) ?_
  refine Gp_put 2 hm2413 he2482 dr_cX13_row_66 (gk_X15 D I) (Nat.le_of_ble_eq_true rfl) wr_9_184 rfl rfl rfl (Nat.le_of_ble_eq_true rfl) (fun F2484 e2485 n2486 => ?_)
  have he2487 : F2484 q2376 = .inr (18, [.ref qo2379, .ref q2377, .int z2459, .int p2381]) := (n2486 q2376 (fun h => hq2414 (h ▸ hmq2376))).trans he2479
  have he2488 : F2484 q2377 = .inr (4, [.int o2438, .ref q2378, .int o2439]) := (n2486 q2377 (fun h => hq2414 (h ▸ hmq2377))).trans he2480
  have he2489 : F2484 q2378 = .inl (I (.object "java/lang/Object"), n2385, .inr (.inr (.inr (.inr f2440)))) := (n2486 q2378 (fun h => hq2414 (h ▸ hmq2378))).trans he2481
  have he2490 : F2484 q2399 = .inr (20, [.int 0, .int 0, .int 0, .int 0, .int 0, .int 0, .int 0]) := e2485
  have hfr2491 : rFr [q2376, q2377, q2378] P2374 F2375 F2484 := rFr_newp hq2414 hfr2483 n2486
  refine G_aload_n 0 dr_cX13_row_69 rfl ?_
  refine G_iconst 0 dr_cX13_row_70 (by decide +kernel) ?_
  refine Gp_put 3 hm2413 he2490 dr_cX13_row_71 (gk_X15 D I) (Nat.le_of_ble_eq_true rfl) wr_9_188 rfl rfl rfl (Nat.le_of_ble_eq_true rfl) (fun F2492 e2493 n2494 => ?_)
  have he2495 : F2492 q2376 = .inr (18, [.ref qo2379, .ref q2377, .int z2459, .int p2381]) := (n2494 q2376 (fun h => hq2414 (h ▸ hmq2376))).trans he2487
  have he2496 : F2492 q2377 = .inr (4, [.int o2438, .ref q2378, .int o2439]) := (n2494 q2377 (fun h => hq2414 (h ▸ hmq2377))).trans he2488
  have he2497 : F2492 q2378 = .inl (I (.object "java/lang/Object"), n2385, .inr (.inr (.inr (.inr f2440)))) := (n2494 q2378 (fun h => hq2414 (h ▸ hmq2378))).trans he2489
  have he2498 : F2492 q2399 = .inr (20, [.int 0, .int 0, .int 0, .int 0, .int 0, .int 0, .int 0]) := e2493
  have hfr2499 : rFr [q2376, q2377, q2378] P2374 F2375 F2492 := rFr_newp hq2414 hfr2491 n2494
  refine G_aload_n 0 dr_cX13_row_74 rfl ?_
  refine G_iconst 0 dr_cX13_row_75 (by decide +kernel) ?_
  refine Gp_put 1 hm2413 he2498 dr_cX13_row_76 (gk_X15 D I) (Nat.le_of_ble_eq_true rfl) wr_9_180 rfl rfl rfl (Nat.le_of_ble_eq_true rfl) (fun F2500 e2501 n2502 => ?_)
  have he2503 : F2500 q2376 = .inr (18, [.ref qo2379, .ref q2377, .int z2459, .int p2381]) := (n2502 q2376 (fun h => hq2414 (h ▸ hmq2376))).trans he2495
  have he2504 : F2500 q2377 = .inr (4, [.int o2438, .ref q2378, .int o2439]) := (n2502 q2377 (fun h => hq2414 (h ▸ hmq2377))).trans he2496
  have he2505 : F2500 q2378 = .inl (I (.object "java/lang/Object"), n2385, .inr (.inr (.inr (.inr f2440)))) := (n2502 q2378 (fun h => hq2414 (h ▸ hmq2378))).trans he2497
  have he2506 : F2500 q2399 = .inr (20, [.int 0, .int 0, .int 0, .int 0, .int 0, .int 0, .int 0]) := e2501
  have hfr2507 : rFr [q2376, q2377, q2378] P2374 F2375 F2500 := rFr_newp hq2414 hfr2499 n2502
  refine G_aload_n 0 dr_cX13_row_79 rfl ?_
  refine G_iconst 0 dr_cX13_row_80 (by decide +kernel) ?_
  refine Gp_put 4 hm2413 he2506 dr_cX13_row_81 (gk_X15 D I) (Nat.le_of_ble_eq_true rfl) wr_9_192 rfl rfl rfl (Nat.le_of_ble_eq_true rfl) (fun F2508 e2509 n2510 => ?_)
  have he2511 : F2508 q2376 = .inr (18, [.ref qo2379, .ref q2377, .int z2459, .int p2381]) := (n2510 q2376 (fun h => hq2414 (h ▸ hmq2376))).trans he2503
  have he2512 : F2508 q2377 = .inr (4, [.int o2438, .ref q2378, .int o2439]) := (n2510 q2377 (fun h => hq2414 (h ▸ hmq2377))).trans he2504
  have he2513 : F2508 q2378 = .inl (I (.object "java/lang/Object"), n2385, .inr (.inr (.inr (.inr f2440)))) := (n2510 q2378 (fun h => hq2414 (h ▸ hmq2378))).trans he2505
  have he2514 : F2508 q2399 = .inr (20, [.int 0, .int 0, .int 0, .int 0, .int 0, .int 0, .int 0]) := e2509
  have hfr2515 : rFr [q2376, q2377, q2378] P2374 F2375 F2508 := rFr_newp hq2414 hfr2507 n2510
  refine G_aload_n 0 dr_cX13_row_84 rfl ?_
  exact G_aretA (FieldType.object "SpillForgeModel$Row") dr_cX13_row_85 rfl (by first | exact Or.inl ⟨_, rfl⟩ | exact Or.inr ⟨_, rfl⟩) (Or.inr ⟨_, rfl⟩) (Nat.le_of_ble_eq_true rfl) (Nat.le_of_ble_eq_true rfl) ⟨P2400, F2508, z2459, q2399, o2438, o2439, f2440, rfl, rfl, hsb2416, hfr2515, he2511, he2512, he2514, he2513, hm2413, hq2414, (Nat.le_of_ble_eq_true rfl), (Nat.le_of_ble_eq_true rfl), bz2459, bo2439, (by have qa0 : Int32.toInt 0 = 0 := (by decide); omega), (by have qa0 : Int32.toInt 0 = 0 := (by decide); omega), (by assumption), (by assumption)⟩
abbrev ky_2541_Code_row : gKey := (cX13_row, 2, "SpillForgeModel$Code", (some (FieldType.object "SpillForgeModel$Row")), [], "row", fun _ _ => True)
def pp_2541_Code_row (D : va_G) (I : FieldType → ClassId) (P2523 : List Nat) (F2524 : Nat → va_E) (q2525 : Nat) (q2526 : Nat) (q2527 : Nat) (qo2528 : Nat) (p2529 : Int32) (p2530 : Int32) (p2531 : Int32) (p2532 : Int32) (f2533 : Nat → Option Nat) (n2534 : Nat) : Option Value → va_W → Nat → Nat → Prop := fun r w dc ds => ∃ (P2683 : List Nat) (F2684 : Nat → va_E) (o2676 : Int32) (q2677 : Nat) (o2678 : Int32) (o2679 : Int32) (q2680 : Nat) (n2681 : Nat) (f2682 : Nat → Option Nat), r = some (.ref q2677) ∧ w = va_pl P2683 F2684 ∧ rSub P2523 P2683 ∧ rFr [q2525, q2526] P2523 F2524 F2684 ∧ F2684 q2525 = .inr (18, [.ref qo2528, .ref q2526, .int o2676, .int p2530]) ∧ F2684 q2677 = .inr (20, [.int 0, .int 0, .int 0, .int 0, .int 0, .int 0, .int 0]) ∧ F2684 q2526 = .inr (4, [.int o2678, .ref q2680, .int o2679]) ∧ F2684 q2680 = .inl (I (.object "java/lang/Object"), n2681, .inr (.inr (.inr (.inr f2682)))) ∧ q2677 ∈ P2683 ∧ q2677 ∉ P2523 ∧ q2680 ∈ P2683 ∧ q2680 ∉ P2523 ∧ dc ≤ 2 ∧ ds ≤ n2534 + n2534 / 2 + 1 + 7 ∧ gB o2676 1 1000001 ∧ gB o2679 1 16777217 ∧ o2676.toInt = p2529.toInt + 1 ∧ o2679.toInt = p2532.toInt + 1 ∧ ((∀ j : Nat, (j : Int) < p2532.toInt → f2682 j = f2533 j) ∧ f2682 p2532.toInt.toNat = some q2677) ∧ rSrcX f2682 f2533 q2677 ∧ ((n2681 : Int) ≤ (n2534 : Int) + (n2534 : Int) / 2 + 1 ∧ (n2534 : Int) + 1 ≤ (n2681 : Int) ∧ (n2534 : Int) + (n2534 : Int) / 2 ≤ (n2681 : Int))
set_option maxRecDepth 100000 in
set_option maxHeartbeats 4000000 in
theorem cp_2541_Code_row (l : Launch) (hl0 : l.stackTraces = false) (D : va_G) (I : FieldType → ClassId) (P2523 : List Nat) (F2524 : Nat → va_E) (q2525 : Nat) (q2526 : Nat) (q2527 : Nat) (qo2528 : Nat) (p2529 : Int32) (p2530 : Int32) (p2531 : Int32) (p2532 : Int32) (f2533 : Nat → Option Nat) (n2534 : Nat) (hmq2525 : q2525 ∈ P2523) (hmq2526 : q2526 ∈ P2523) (hmq2527 : q2527 ∈ P2523) (heq2525 : F2524 q2525 = .inr (18, [.ref qo2528, .ref q2526, .int p2529, .int p2530])) (heq2526 : F2524 q2526 = .inr (4, [.int p2531, .ref q2527, .int p2532])) (heq2527 : F2524 q2527 = .inl (I (.object "java/lang/Object"), n2534, .inr (.inr (.inr (.inr f2533))))) (bp2529 : gB p2529 0 1000000) (bp2530 : gB p2530 0 1000000) (bp2532 : gB p2532 0 1000000) (x2535 : p2529.toInt = p2532.toInt) (x2536 : 0 < (n2534 : Int)) (x2537 : (n2534 : Int) ≤ 1000000) (x2538 : p2532.toInt = (n2534 : Int)) (x2539 : rEl P2523 F2524 f2533) (x2540 : ((n2534 : Int) ≤ 16777216)) : CtA (gV D I) l yX13_row cX13_row 2 (some (FieldType.object "SpillForgeModel$Row")) 7 149 2 (n2534 + n2534 / 2 + 1 + 7) [.ref q2525] (va_pl P2523 F2524) (pp_2541_Code_row D I P2523 F2524 q2525 q2526 q2527 qo2528 p2529 p2530 p2531 p2532 f2533 n2534) gNA := by
  refine CtA_of hl0 (by decide) (Nat.le_of_ble_eq_true rfl) ?_
  have bp2531 := gB_any p2531
  refine G_aload_n 0 dr_cX13_row_0 rfl ?_
  refine Gp_get 2 hmq2525 heq2525 dr_cX13_row_1 (gk_X13 D I) (Nat.le_of_ble_eq_true rfl) wr_7_32 rfl ?_
  refine G_aload_n 0 dr_cX13_row_4 rfl ?_
  refine Gp_get 1 hmq2525 heq2525 dr_cX13_row_5 (gk_X13 D I) (Nat.le_of_ble_eq_true rfl) wr_7_31 rfl ?_
  refine Gw_callV (As := []) (gV_ok D I) (cp_2299_ArrayList_size l hl0 D I P2523 F2524 q2526 q2527 p2531 p2532 f2533 n2534 hmq2526 hmq2527 heq2526 heq2527 (gB_w bp2532 (by decide) (by decide)) (by omega)) dr_cX13_row_8 ⟨wr_9_157, wr_1_18, wr_9_160, by decide, rfl, (Nat.le_of_ble_eq_true rfl), (Nat.le_of_ble_eq_true rfl)⟩ wr_9_158 wr_9_159 hmq2526 heq2526 rfl (show 0 + 0 ≤ 2 by first | omega | decide) (show 0 + 0 ≤ (n2534 + n2534 / 2 + 1 + 7) by first | omega | decide) (Nat.le_of_ble_eq_true rfl) (fun r2545 w2546 dc2542 ds2543 hp2544 => ?_) (fun _ _ _ _ _ z => z.elim)
  obtain ⟨rfl, rfl, hdc, hds⟩ := hp2544
  change G _ _ _ _ _ _ _ (.int p2532 :: _) _ _ _
  refine G_widen (cs' := 0) (sl' := 0) (by omega) (by omega) ?_
  refine G_icmp_ne 29 dr_cX13_row_11 (by decide +kernel) (fun hc => absurd (show False by have := gC_ne hc; omega) not_false) (fun hc2547 => ?_)
  have r2549 : p2529.toInt = p2532.toInt := gC_eq hc2547
  refine G_aload_n 0 dr_cX13_row_14 rfl ?_
  refine Gp_get 1 hmq2525 heq2525 dr_cX13_row_15 (gk_X13 D I) (Nat.le_of_ble_eq_true rfl) wr_7_31 rfl ?_
  refine G_new [.int 0, .int 0, .int 0, .int 0, .int 0, .int 0, .int 0] dr_cX13_row_18 (gk_X15 D I) wr_10_83 wr_9_170 wr_1_39 (gfs_X15) (show 0 + 1 ≤ 2 by first | omega | decide) (show 0 + 7 ≤ (n2534 + n2534 / 2 + 1 + 7) by first | omega | decide) (fun q2550 => Gp_in (fun P2551 F2552 hq2553 hP2554 e2555 n2556 => ?_))
  refine G_widen (cs' := 1) (sl' := 7) (by omega) (by omega) ?_
  have he2557 : F2552 q2525 = .inr (18, [.ref qo2528, .ref q2526, .int p2529, .int p2530]) := (n2556 q2525 (fun h => hq2553 (h ▸ hmq2525))).trans heq2525
  have he2558 : F2552 q2526 = .inr (4, [.int p2531, .ref q2527, .int p2532]) := (n2556 q2526 (fun h => hq2553 (h ▸ hmq2526))).trans heq2526
  have he2559 : F2552 q2527 = .inl (I (.object "java/lang/Object"), n2534, .inr (.inr (.inr (.inr f2533)))) := (n2556 q2527 (fun h => hq2553 (h ▸ hmq2527))).trans heq2527
  have he2560 : F2552 q2550 = .inr (20, [.int 0, .int 0, .int 0, .int 0, .int 0, .int 0, .int 0]) := e2555
  have hm2561 : q2525 ∈ P2551 := (hP2554 q2525).mpr (Or.inl hmq2525)
  have hm2562 : q2526 ∈ P2551 := (hP2554 q2526).mpr (Or.inl hmq2526)
  have hm2563 : q2527 ∈ P2551 := (hP2554 q2527).mpr (Or.inl hmq2527)
  have hm2564 : q2550 ∈ P2551 := (hP2554 q2550).mpr (Or.inr rfl)
  have hq2565 : q2550 ∉ P2523 := fun z => hq2553 ((rSub_rf (P := P2523)) q2550 z)
  have hfr2566 : rFr [] P2523 F2524 F2552 := rFr_new (rSub_rf (P := P2523)) hq2553 (rFr_rf (W := []) (P := P2523) (F := F2524)) n2556
  have hsb2567 : rSub P2523 P2551 := rSub_new (rSub_rf (P := P2523)) hP2554
  refine G_dup dr_cX13_row_21 rfl ?_
  refine Gw_callIN (As := []) (gV_ok D I) (cp_2427_Row_init l hl0 D I P2551 F2552 q2550 0 0 0 0 0 0 0 hm2564 he2560 (gB_w (gBl (show Int32.toInt 0 = 0 by decide)) (by decide) (by decide)) (gB_w (gBl (show Int32.toInt 0 = 0 by decide)) (by decide) (by decide)) (gB_w (gBl (show Int32.toInt 0 = 0 by decide)) (by decide) (by decide)) (gB_w (gBl (show Int32.toInt 0 = 0 by decide)) (by decide) (by decide)) (gB_w (gBl (show Int32.toInt 0 = 0 by decide)) (by decide) (by decide))) dr_cX13_row_22 ⟨(fun _ _ _ h => gn_w 80 rfl h), wr_1_39, wr_9_173, by decide, rfl, (Nat.le_of_ble_eq_true rfl), (Nat.le_of_ble_eq_true rfl)⟩ wr_9_172 rfl (show 1 + 0 ≤ 2 by first | omega | decide) (show 7 + 0 ≤ (n2534 + n2534 / 2 + 1 + 7) by first | omega | decide) (Nat.le_of_ble_eq_true rfl) (fun r2571 w2572 dc2568 ds2569 hp2570 => ?_)
  obtain ⟨rfl, rfl, hdc, hds⟩ := hp2570
  change G _ _ _ _ _ _ _ _ _ _ _
  refine G_widen (cs' := 1) (sl' := 7) (by omega) (by omega) ?_
  refine Gw_callV (As := [.ref q2550]) (gV_ok D I) (cp_276_ArrayList_add l hl0 D I P2551 F2552 q2526 q2550 q2527 p2531 p2532 0 0 0 0 0 0 0 f2533 n2534 hm2562 hm2564 hm2563 he2558 he2560 he2559 (gB_w bp2532 (by decide) (by decide)) (gB_w (gBl (show Int32.toInt 0 = 0 by decide)) (by decide) (by decide)) (gB_w (gBl (show Int32.toInt 0 = 0 by decide)) (by decide) (by decide)) (gB_w (gBl (show Int32.toInt 0 = 0 by decide)) (by decide) (by decide)) (gB_w (gBl (show Int32.toInt 0 = 0 by decide)) (by decide) (by decide)) (gB_w (gBl (show Int32.toInt 0 = 0 by decide)) (by decide) (by decide)) (by have qa0 : Int32.toInt 0 = 0 := (by decide); omega) (by have qa0 : Int32.toInt 0 = 0 := (by decide); omega) (by have qa0 : Int32.toInt 0 = 0 := (by decide); omega) (rEl_frG (rEl_src x2539 rSrc_rf) hsb2567 hfr2566 rNg_n) (by have qa0 : Int32.toInt 0 = 0 := (by decide); omega)) dr_cX13_row_25 ⟨wr_10_3, wr_1_18, wr_10_6, by decide, rfl, (Nat.le_of_ble_eq_true rfl), (Nat.le_of_ble_eq_true rfl)⟩ wr_10_4 wr_10_5 hm2562 he2558 rfl (show 1 + 1 ≤ 2 by first | omega | decide) (show 7 + (n2534 + n2534 / 2 + 1) ≤ (n2534 + n2534 / 2 + 1 + 7) by first | omega | decide) (Nat.le_of_ble_eq_true rfl) (fun r2576 w2577 dc2573 ds2574 hp2575 => ?_) (fun _ _ _ _ _ z => z.elim)
  obtain ⟨P2587, F2588, o2578, o2579, q2580, n2581, f2582, rfl, rfl, hsb2589, hfr2590, he2591, he2592, he2593, hm2594, hq2595, hdc, hds, bo2579, x2583, x2584, x2585, x2586⟩ := hp2575
  have hm2596 : q2525 ∈ P2587 := hsb2589 q2525 hm2561
  have hm2597 : q2526 ∈ P2587 := hsb2589 q2526 hm2562
  have hm2598 : q2527 ∈ P2587 := hsb2589 q2527 hm2563
  have hm2599 : q2550 ∈ P2587 := hsb2589 q2550 hm2564
  have hq2600 : q2580 ∉ P2523 := fun z => hq2595 (hsb2567 q2580 z)
  have hsb2601 : rSub P2523 P2587 := rSub_tr hsb2567 hsb2589
  have he2602 : F2588 q2525 = .inr (18, [.ref qo2528, .ref q2526, .int p2529, .int p2530]) := (hfr2590 q2525 hm2561 (nm_c (rn_oo he2557 he2558 (by decide)) nm_n)).trans he2557
  have he2603 : F2588 q2527 = .inl (I (.object "java/lang/Object"), n2534, .inr (.inr (.inr (.inr f2533)))) := (hfr2590 q2527 hm2563 (nm_c (rn_ao he2559 he2558) nm_n)).trans he2559
  have hfr2604 : rFr [q2526] P2523 F2524 F2588 := rFr_call hsb2567 hfr2566 hfr2590 (fun b hb hn => ⟨nm_n, (nm_c (fun e => hn (e ▸ List.mem_cons_self)) nm_n)⟩)
  have bo2578 := gB_any o2578
  change G _ _ _ _ _ _ _ (.int 1 :: _) _ _ _
  refine G_widen (cs' := 2) (sl' := 7 + (n2534 + n2534 / 2 + 1)) (by omega) (by omega) ?_
  have hx2605 : f2582 p2529.toNatClampNeg = some q2550 := by show f2582 p2529.toInt.toNat = _; rw [show p2529.toInt = p2532.toInt by omega]; exact x2584.2
  refine G_pop dr_cX13_row_28 rfl ?_
  refine G_aload_n 0 dr_cX13_row_29 rfl ?_
  refine Gp_get 1 hm2596 he2602 dr_cX13_row_30 (gk_X13 D I) (Nat.le_of_ble_eq_true rfl) wr_7_31 rfl ?_
  refine G_aload_n 0 dr_cX13_row_33 rfl ?_
  refine Gp_get 2 hm2596 he2602 dr_cX13_row_34 (gk_X13 D I) (Nat.le_of_ble_eq_true rfl) wr_7_32 rfl ?_
  refine Gw_callV (As := [.int p2529]) (gV_ok D I) (cp_22_ArrayList_get l hl0 D I P2587 F2588 q2526 q2580 p2529 o2578 o2579 f2582 n2581 q2550 hm2597 hm2594 he2592 he2593 (gB_w bp2529 (by decide) (by decide)) ⟨by omega, by omega⟩ (by have qa0 : Int32.toInt 0 = 0 := (by decide); omega) (by have qa0 : Int32.toInt 0 = 0 := (by decide); omega) (by assumption) (by have qa0 : Int32.toInt 0 = 0 := (by decide); omega)) dr_cX13_row_37 ⟨wr_10_62, wr_1_18, wr_10_65, by decide, rfl, (Nat.le_of_ble_eq_true rfl), (Nat.le_of_ble_eq_true rfl)⟩ wr_10_63 wr_10_64 hm2597 he2592 rfl (show 2 + 0 ≤ 2 by first | omega | decide) (show 7 + (n2534 + n2534 / 2 + 1) + 0 ≤ (n2534 + n2534 / 2 + 1 + 7) by first | omega | decide) (Nat.le_of_ble_eq_true rfl) (fun r2609 w2610 dc2606 ds2607 hp2608 => ?_) (fun _ _ _ _ _ z => z.elim)
  obtain ⟨rfl, rfl, hdc, hds, ht2611⟩ := hp2608
  change G _ _ _ _ _ _ _ (.ref q2550 :: _) _ _ _
  refine G_widen (cs' := 2) (sl' := 7 + (n2534 + n2534 / 2 + 1) + 0) (by omega) (by omega) ?_
  refine Gp_cast hm2599 he2591 rfl dr_cX13_row_40 wr_10_83 (gr_cast 1 rfl) ?_
  refine G_astore_n (L' := [(1, .ref q2550), (0, .ref q2525)]) dr_cX13_row_43 (Nat.le_of_ble_eq_true rfl) rfl ?_
  refine G_aload_n 1 dr_cX13_row_44 rfl ?_
  refine G_dup dr_cX13_row_45 rfl ?_
  refine Gp_get 2 hm2596 he2602 dr_cX13_row_46 (gk_X13 D I) (Nat.le_of_ble_eq_true rfl) wr_7_32 rfl ?_
  refine G_iconst 1 dr_cX13_row_49 (by decide +kernel) ?_
  refine G_iadd dr_cX13_row_50 (G_nam fun z2612 hz2612 => ?_)
  have ez2612 : z2612.toInt = p2529.toInt + 1 := by rw [gI_add hz2612 bp2529 (gBl (show Int32.toInt 1 = 1 by decide)) (by decide) (by decide), show Int32.toInt 1 = 1 from by decide]
  have bz2612 : gB z2612 1 1000001 := gB_add (gI_add hz2612 bp2529 (gBl (show Int32.toInt 1 = 1 by decide)) (by decide) (by decide)) bp2529 (gBl (show Int32.toInt 1 = 1 by decide)) (by decide) (by decide)
  refine Gp_put 2 hm2596 he2602 dr_cX13_row_51 (gk_X13 D I) (Nat.le_of_ble_eq_true rfl) wr_7_32 rfl rfl rfl (Nat.le_of_ble_eq_true rfl) (fun F2613 e2614 n2615 => ?_)
  have he2616 : F2613 q2527 = .inl (I (.object "java/lang/Object"), n2534, .inr (.inr (.inr (.inr f2533)))) := (n2615 q2527 (rn_ao he2603 he2602)).trans he2603
  have he2617 : F2613 q2550 = .inr (20, [.int 0, .int 0, .int 0, .int 0, .int 0, .int 0, .int 0]) := (n2615 q2550 (fun h => hq2565 (h ▸ hmq2525))).trans he2591
  have he2618 : F2613 q2526 = .inr (4, [.int o2578, .ref q2580, .int o2579]) := (n2615 q2526 (rn_oo he2592 he2602 (by decide))).trans he2592
  have he2619 : F2613 q2580 = .inl (I (.object "java/lang/Object"), n2581, .inr (.inr (.inr (.inr f2582)))) := (n2615 q2580 (fun h => hq2600 (h ▸ hmq2525))).trans he2593
  have he2620 : F2613 q2525 = .inr (18, [.ref qo2528, .ref q2526, .int z2612, .int p2530]) := e2614
  have hfr2621 : rFr [q2525, q2526] P2523 F2524 F2613 := rFr_put hfr2604 n2615
  refine G_aload_n 0 dr_cX13_row_54 rfl ?_
  refine G_iconst 0 dr_cX13_row_55 (by decide +kernel) ?_
  refine Gp_put 5 hm2599 he2617 dr_cX13_row_56 (gk_X15 D I) (Nat.le_of_ble_eq_true rfl) wr_9_196 rfl rfl rfl (Nat.le_of_ble_eq_true rfl) (fun F2622 e2623 n2624 => ?_)
  have he2625 : F2622 q2525 = .inr (18, [.ref qo2528, .ref q2526, .int z2612, .int p2530]) := (n2624 q2525 (fun h => hq2565 (h ▸ hmq2525))).trans he2620
  have he2626 : F2622 q2527 = .inl (I (.object "java/lang/Object"), n2534, .inr (.inr (.inr (.inr f2533)))) := (n2624 q2527 (fun h => hq2565 (h ▸ hmq2527))).trans he2616
  have he2627 : F2622 q2526 = .inr (4, [.int o2578, .ref q2580, .int o2579]) := (n2624 q2526 (fun h => hq2565 (h ▸ hmq2526))).trans he2618
  have he2628 : F2622 q2580 = .inl (I (.object "java/lang/Object"), n2581, .inr (.inr (.inr (.inr f2582)))) := (n2624 q2580 (rn_ao he2619 he2617)).trans he2619
  have he2629 : F2622 q2550 = .inr (20, [.int 0, .int 0, .int 0, .int 0, .int 0, .int 0, .int 0]) := e2623
  have hfr2630 : rFr [q2525, q2526] P2523 F2524 F2622 := rFr_newp hq2565 hfr2621 n2624
  refine G_aload_n 0 dr_cX13_row_59 rfl ?_
  refine G_iconst 0 dr_cX13_row_60 (by decide +kernel) ?_
  refine Gp_put 6 hm2599 he2629 dr_cX13_row_61 (gk_X15 D I) (Nat.le_of_ble_eq_true rfl) wr_9_200 rfl rfl rfl (Nat.le_of_ble_eq_true rfl) (fun F2631 e2632 n2633 => ?_)
  have he2634 : F2631 q2525 = .inr (18, [.ref qo2528, .ref q2526, .int z2612, .int p2530]) := (n2633 q2525 (fun h => hq2565 (h ▸ hmq2525))).trans he2625
  have he2635 : F2631 q2527 = .inl (I (.object "java/lang/Object"), n2534, .inr (.inr (.inr (.inr f2533)))) := (n2633 q2527 (fun h => hq2565 (h ▸ hmq2527))).trans he2626
  have he2636 : F2631 q2526 = .inr (4, [.int o2578, .ref q2580, .int o2579]) := (n2633 q2526 (fun h => hq2565 (h ▸ hmq2526))).trans he2627
  have he2637 : F2631 q2580 = .inl (I (.object "java/lang/Object"), n2581, .inr (.inr (.inr (.inr f2582)))) := (n2633 q2580 (rn_ao he2628 he2629)).trans he2628
  have he2638 : F2631 q2550 = .inr (20, [.int 0, .int 0, .int 0, .int 0, .int 0, .int 0, .int 0]) := e2632
  have hfr2639 : rFr [q2525, q2526] P2523 F2524 F2631 := rFr_newp hq2565 hfr2630 n2633
  refine G_aload_n 0 dr_cX13_row_64 rfl ?_
  refine G_iconst 0 dr_cX13_row_65 (by decide +kernel) ?_
  refine Gp_put 2 hm2599 he2638 dr_cX13_row_66 (gk_X15 D I) (Nat.le_of_ble_eq_true rfl) wr_9_184 rfl rfl rfl (Nat.le_of_ble_eq_true rfl) (fun F2640 e2641 n2642 => ?_)
  have he2643 : F2640 q2525 = .inr (18, [.ref qo2528, .ref q2526, .int z2612, .int p2530]) := (n2642 q2525 (fun h => hq2565 (h ▸ hmq2525))).trans he2634
  have he2644 : F2640 q2527 = .inl (I (.object "java/lang/Object"), n2534, .inr (.inr (.inr (.inr f2533)))) := (n2642 q2527 (fun h => hq2565 (h ▸ hmq2527))).trans he2635
  have he2645 : F2640 q2526 = .inr (4, [.int o2578, .ref q2580, .int o2579]) := (n2642 q2526 (fun h => hq2565 (h ▸ hmq2526))).trans he2636
  have he2646 : F2640 q2580 = .inl (I (.object "java/lang/Object"), n2581, .inr (.inr (.inr (.inr f2582)))) := (n2642 q2580 (rn_ao he2637 he2638)).trans he2637
  have he2647 : F2640 q2550 = .inr (20, [.int 0, .int 0, .int 0, .int 0, .int 0, .int 0, .int 0]) := e2641
  have hfr2648 : rFr [q2525, q2526] P2523 F2524 F2640 := rFr_newp hq2565 hfr2639 n2642
  refine G_aload_n 0 dr_cX13_row_69 rfl ?_
  refine G_iconst 0 dr_cX13_row_70 (by decide +kernel) ?_
  refine Gp_put 3 hm2599 he2647 dr_cX13_row_71 (gk_X15 D I) (Nat.le_of_ble_eq_true rfl) wr_9_188 rfl rfl rfl (Nat.le_of_ble_eq_true rfl) (fun F2649 e2650 n2651 => ?_)
  have he2652 : F2649 q2525 = .inr (18, [.ref qo2528, .ref q2526, .int z2612, .int p2530]) := (n2651 q2525 (fun h => hq2565 (h ▸ hmq2525))).trans he2643
  have he2653 : F2649 q2527 = .inl (I (.object "java/lang/Object"), n2534, .inr (.inr (.inr (.inr f2533)))) := (n2651 q2527 (fun h => hq2565 (h ▸ hmq2527))).trans he2644
  have he2654 : F2649 q2526 = .inr (4, [.int o2578, .ref q2580, .int o2579]) := (n2651 q2526 (fun h => hq2565 (h ▸ hmq2526))).trans he2645
  have he2655 : F2649 q2580 = .inl (I (.object "java/lang/Object"), n2581, .inr (.inr (.inr (.inr f2582)))) := (n2651 q2580 (rn_ao he2646 he2647)).trans he2646
  have he2656 : F2649 q2550 = .inr (20, [.int 0, .int 0, .int 0, .int 0, .int 0, .int 0, .int 0]) := e2650
  have hfr2657 : rFr [q2525, q2526] P2523 F2524 F2649 := rFr_newp hq2565 hfr2648 n2651
  refine G_aload_n 0 dr_cX13_row_74 rfl ?_
  refine G_iconst 0 dr_cX13_row_75 (by decide +kernel) ?_
  refine Gp_put 1 hm2599 he2656 dr_cX13_row_76 (gk_X15 D I) (Nat.le_of_ble_eq_true rfl) wr_9_180 rfl rfl rfl (Nat.le_of_ble_eq_true rfl) (fun F2658 e2659 n2660 => ?_)
  have he2661 : F2658 q2525 = .inr (18, [.ref qo2528, .ref q2526, .int z2612, .int p2530]) := (n2660 q2525 (fun h => hq2565 (h ▸ hmq2525))).trans he2652
  have he2662 : F2658 q2527 = .inl (I (.object "java/lang/Object"), n2534, .inr (.inr (.inr (.inr f2533)))) := (n2660 q2527 (fun h => hq2565 (h ▸ hmq2527))).trans he2653
  have he2663 : F2658 q2526 = .inr (4, [.int o2578, .ref q2580, .int o2579]) := (n2660 q2526 (fun h => hq2565 (h ▸ hmq2526))).trans he2654
  have he2664 : F2658 q2580 = .inl (I (.object "java/lang/Object"), n2581, .inr (.inr (.inr (.inr f2582)))) := (n2660 q2580 (rn_ao he2655 he2656)).trans he2655
  have he2665 : F2658 q2550 = .inr (20, [.int 0, .int 0, .int 0, .int 0, .int 0, .int 0, .int 0]) := e2659
  have hfr2666 : rFr [q2525, q2526] P2523 F2524 F2658 := rFr_newp hq2565 hfr2657 n2660
  refine G_aload_n 0 dr_cX13_row_79 rfl ?_
  refine G_iconst 0 dr_cX13_row_80 (by decide +kernel) ?_
  refine Gp_put 4 hm2599 he2665 dr_cX13_row_81 (gk_X15 D I) (Nat.le_of_ble_eq_true rfl) wr_9_192 rfl rfl rfl (Nat.le_of_ble_eq_true rfl) (fun F2667 e2668 n2669 => ?_)
  have he2670 : F2667 q2525 = .inr (18, [.ref qo2528, .ref q2526, .int z2612, .int p2530]) := (n2669 q2525 (fun h => hq2565 (h ▸ hmq2525))).trans he2661
  have he2671 : F2667 q2527 = .inl (I (.object "java/lang/Object"), n2534, .inr (.inr (.inr (.inr f2533)))) := (n2669 q2527 (fun h => hq2565 (h ▸ hmq2527))).trans he2662
  have he2672 : F2667 q2526 = .inr (4, [.int o2578, .ref q2580, .int o2579]) := (n2669 q2526 (fun h => hq2565 (h ▸ hmq2526))).trans he2663
  have he2673 : F2667 q2580 = .inl (I (.object "java/lang/Object"), n2581, .inr (.inr (.inr (.inr f2582)))) := (n2669 q2580 (rn_ao he2664 he2665)).trans he2664
  have he2674 : F2667 q2550 = .inr (20, [.int 0, .int 0, .int 0, .int 0, .int 0, .int 0, .int 0]) := e2668
  have hfr2675 : rFr [q2525, q2526] P2523 F2524 F2667 := rFr_newp hq2565 hfr2666 n2669
  refine G_aload_n 0 dr_cX13_row_84 rfl ?_
  exact G_aretA (FieldType.object "SpillForgeModel$Row") dr_cX13_row_85 rfl (by first | exact Or.inl ⟨_, rfl⟩ | exact Or.inr ⟨_, rfl⟩) (Or.inr ⟨_, rfl⟩) (Nat.le_of_ble_eq_true rfl) (show 7 + (n2534 + n2534 / 2 + 1) + 0 ≤ (n2534 + n2534 / 2 + 1 + 7) by omega) ⟨P2587, F2667, z2612, q2550, o2578, o2579, q2580, n2581, f2582, rfl, rfl, hsb2601, hfr2675, he2670, he2674, he2672, he2673, hm2599, hq2565, hm2594, hq2600, (Nat.le_of_ble_eq_true rfl), (by omega), bz2612, bo2579, (by have qa0 : Int32.toInt 0 = 0 := (by decide); omega), (by have qa0 : Int32.toInt 0 = 0 := (by decide); omega), (by assumption), (by assumption), (by have qa0 : Int32.toInt 0 = 0 := (by decide); omega)⟩
