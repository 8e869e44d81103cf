theorem dr_cX17_colours_0 : decode cX17_colours 0 = .ok (.iconst 0, 1) := by decide +kernel
theorem dr_cX17_colours_1 : decode cX17_colours 1 = .ok (.istore_n 2, 1) := by decide +kernel
theorem dr_cX17_colours_2 : decode cX17_colours 2 = .ok (.iload_n 2, 1) := by decide +kernel
theorem dr_cX17_colours_3 : decode cX17_colours 3 = .ok (.sipush 2000, 3) := by decide +kernel
theorem dr_cX17_colours_6 : decode cX17_colours 6 = .ok (.if_icmp .ge 56, 3) := by decide +kernel
theorem dr_cX17_colours_62 : decode cX17_colours 62 = .ok (.iconst 0, 1) := by decide +kernel
theorem dr_cX17_colours_63 : decode cX17_colours 63 = .ok (.istore_n 2, 1) := by decide +kernel
theorem dr_cX17_colours_64 : decode cX17_colours 64 = .ok (.aload_n 0, 1) := by decide +kernel
theorem dr_cX17_colours_65 : decode cX17_colours 65 = .ok (.iload_n 1, 1) := by decide +kernel
theorem dr_cX17_colours_66 : decode cX17_colours 66 = .ok (.invokevirtual 215, 3) := by decide +kernel
theorem wr_11_51 : (Jvm.Cond.methodLink "SpillForgeModel" (215 : Nat) ({ cls := "SpillForgeModel", name := "next", desc := "(I)I" } : Jvm.MethodName)) ∈ gw := gw_11 51 rfl rfl
theorem wr_11_54 : (Jvm.Cond.code ({ cls := "SpillForgeModel", name := "next", desc := "(I)I" } : Jvm.MethodName) prog_14_method_20_code (7 : Nat) (Option.some Jvm.ClassFile.FieldType.int)) ∈ gw := gw_11 54 rfl rfl
theorem wr_11_53 : (Jvm.Cond.instanceMethod ({ cls := "SpillForgeModel", name := "next", desc := "(I)I" } : Jvm.MethodName)) ∈ gw := gw_11 53 rfl rfl
theorem wr_p_107 : Cond.selects "SpillForgeModel" ⟨"SpillForgeModel", "next", "(I)I"⟩ ⟨"SpillForgeModel", "next", "(I)I"⟩ ∈ gw := gw_p _ 107 rfl rfl rfl
theorem dr_cX17_colours_69 : decode cX17_colours 69 = .ok (.istore_n 3, 1) := by decide +kernel
theorem dr_cX17_colours_70 : decode cX17_colours 70 = .ok (.iload_n 3, 1) := by decide +kernel
theorem dr_cX17_colours_71 : decode cX17_colours 71 = .ok (.ifCond .lt 71, 3) := by decide +kernel
theorem dr_cX17_colours_142 : decode cX17_colours 142 = .ok (.iconst 0, 1) := by decide +kernel
theorem dr_cX17_colours_143 : decode cX17_colours 143 = .ok (.istore_n 3, 1) := by decide +kernel
theorem dr_cX17_colours_144 : decode cX17_colours 144 = .ok (.iload_n 2, 1) := by decide +kernel
theorem dr_cX17_colours_145 : decode cX17_colours 145 = .ok (.ifCond .le 108, 3) := by decide +kernel
theorem dr_cX17_colours_253 : decode cX17_colours 253 = .ok (.iload_n 3, 1) := by decide +kernel
theorem dr_cX17_colours_254 : decode cX17_colours 254 = .ok (.ireturn, 1) := by decide +kernel
theorem dr_cX17_colours_148 : decode cX17_colours 148 = .ok (.iinc 2 (-1), 3) := by decide +kernel
theorem dr_cX17_colours_151 : decode cX17_colours 151 = .ok (.aload_n 0, 1) := by decide +kernel
theorem dr_cX17_colours_152 : decode cX17_colours 152 = .ok (.getfield 218, 3) := by decide +kernel
theorem wr_7_89 : (Jvm.Cond.fieldLink "SpillForgeModel" (218 : Nat) "SpillForgeModel" "pile" "[I") ∈ gw := gw_7 89 rfl rfl
theorem dr_cX17_colours_155 : decode cX17_colours 155 = .ok (.iload_n 2, 1) := by decide +kernel
theorem dr_cX17_colours_156 : decode cX17_colours 156 = .ok (.iaload, 1) := by decide +kernel
theorem dr_cX17_colours_157 : decode cX17_colours 157 = .ok (.istore 4, 2) := by decide +kernel
theorem dr_cX17_colours_159 : decode cX17_colours 159 = .ok (.lconst 0, 1) := by decide +kernel
theorem dr_cX17_colours_160 : decode cX17_colours 160 = .ok (.lstore 5, 2) := by decide +kernel
theorem dr_cX17_colours_162 : decode cX17_colours 162 = .ok (.iconst 0, 1) := by decide +kernel
theorem dr_cX17_colours_163 : decode cX17_colours 163 = .ok (.istore 7, 2) := by decide +kernel
theorem dr_cX17_colours_165 : decode cX17_colours 165 = .ok (.iload 7, 2) := by decide +kernel
theorem dr_cX17_colours_167 : decode cX17_colours 167 = .ok (.sipush 2000, 3) := by decide +kernel
theorem dr_cX17_colours_170 : decode cX17_colours 170 = .ok (.if_icmp .ge 48, 3) := by decide +kernel
theorem dr_cX17_colours_218 : decode cX17_colours 218 = .ok (.lload 5, 2) := by decide +kernel
theorem dr_cX17_colours_220 : decode cX17_colours 220 = .ok (.ldc2_w 31, 3) := by decide +kernel
theorem dr_cX17_colours_223 : decode cX17_colours 223 = .ok (.lxor, 1) := by decide +kernel
theorem dr_cX17_colours_224 : decode cX17_colours 224 = .ok (.invokestatic 149, 3) := by decide +kernel
theorem dr_cX17_colours_227 : decode cX17_colours 227 = .ok (.istore 7, 2) := by decide +kernel
theorem dr_cX17_colours_229 : decode cX17_colours 229 = .ok (.iload 7, 2) := by decide +kernel
theorem dr_cX17_colours_231 : decode cX17_colours 231 = .ok (.iload_n 1, 1) := by decide +kernel
theorem dr_cX17_colours_232 : decode cX17_colours 232 = .ok (.if_icmp .ge 15, 3) := by decide +kernel
theorem dr_cX17_colours_247 : decode cX17_colours 247 = .ok (.iinc 3 1, 3) := by decide +kernel
theorem dr_cX17_colours_250 : decode cX17_colours 250 = .ok (.goto (-106), 3) := by decide +kernel
theorem dr_cX17_colours_235 : decode cX17_colours 235 = .ok (.aload_n 0, 1) := by decide +kernel
theorem dr_cX17_colours_236 : decode cX17_colours 236 = .ok (.getfield 212, 3) := by decide +kernel
theorem wr_7_91 : (Jvm.Cond.fieldLink "SpillForgeModel" (212 : Nat) "SpillForgeModel" "colour" "[I") ∈ gw := gw_7 91 rfl rfl
theorem dr_cX17_colours_239 : decode cX17_colours 239 = .ok (.iload 4, 2) := by decide +kernel
theorem dr_cX17_colours_241 : decode cX17_colours 241 = .ok (.iload 7, 2) := by decide +kernel
theorem dr_cX17_colours_243 : decode cX17_colours 243 = .ok (.iastore, 1) := by decide +kernel
theorem dr_cX17_colours_244 : decode cX17_colours 244 = .ok (.goto 6, 3) := by decide +kernel
theorem dr_cX17_colours_173 : decode cX17_colours 173 = .ok (.aload_n 0, 1) := by decide +kernel
theorem dr_cX17_colours_174 : decode cX17_colours 174 = .ok (.getfield 212, 3) := by decide +kernel
theorem dr_cX17_colours_177 : decode cX17_colours 177 = .ok (.iload 7, 2) := by decide +kernel
theorem dr_cX17_colours_179 : decode cX17_colours 179 = .ok (.iaload, 1) := by decide +kernel
theorem dr_cX17_colours_180 : decode cX17_colours 180 = .ok (.ifCond .lt 32, 3) := by decide +kernel
theorem dr_cX17_colours_212 : decode cX17_colours 212 = .ok (.iinc 7 1, 3) := by decide +kernel
theorem dr_cX17_colours_215 : decode cX17_colours 215 = .ok (.goto (-50), 3) := by decide +kernel
theorem dr_cX17_colours_183 : decode cX17_colours 183 = .ok (.aload_n 0, 1) := by decide +kernel
theorem dr_cX17_colours_184 : decode cX17_colours 184 = .ok (.getfield 135, 3) := by decide +kernel
theorem dr_cX17_colours_187 : decode cX17_colours 187 = .ok (.iload 4, 2) := by decide +kernel
theorem dr_cX17_colours_189 : decode cX17_colours 189 = .ok (.aaload, 1) := by decide +kernel
theorem dr_cX17_colours_190 : decode cX17_colours 190 = .ok (.iload 7, 2) := by decide +kernel
theorem dr_cX17_colours_192 : decode cX17_colours 192 = .ok (.invokestatic 145, 3) := by decide +kernel
theorem dr_cX17_colours_195 : decode cX17_colours 195 = .ok (.ifCond .eq 17, 3) := by decide +kernel
theorem dr_cX17_colours_198 : decode cX17_colours 198 = .ok (.lload 5, 2) := by decide +kernel
theorem dr_cX17_colours_200 : decode cX17_colours 200 = .ok (.lconst 1, 1) := by decide +kernel
theorem dr_cX17_colours_201 : decode cX17_colours 201 = .ok (.aload_n 0, 1) := by decide +kernel
theorem dr_cX17_colours_202 : decode cX17_colours 202 = .ok (.getfield 212, 3) := by decide +kernel
theorem dr_cX17_colours_205 : decode cX17_colours 205 = .ok (.iload 7, 2) := by decide +kernel
theorem dr_cX17_colours_207 : decode cX17_colours 207 = .ok (.iaload, 1) := by decide +kernel
theorem dr_cX17_colours_208 : decode cX17_colours 208 = .ok (.lshl, 1) := by decide +kernel
theorem dr_cX17_colours_209 : decode cX17_colours 209 = .ok (.lor, 1) := by decide +kernel
theorem dr_cX17_colours_210 : decode cX17_colours 210 = .ok (.lstore 5, 2) := by decide +kernel
theorem dr_cX17_colours_74 : decode cX17_colours 74 = .ok (.aload_n 0, 1) := by decide +kernel
theorem dr_cX17_colours_75 : decode cX17_colours 75 = .ok (.getfield 218, 3) := by decide +kernel
theorem dr_cX17_colours_78 : decode cX17_colours 78 = .ok (.iload_n 2, 1) := by decide +kernel
theorem dr_cX17_colours_79 : decode cX17_colours 79 = .ok (.iload_n 3, 1) := by decide +kernel
theorem dr_cX17_colours_80 : decode cX17_colours 80 = .ok (.iastore, 1) := by decide +kernel
theorem dr_cX17_colours_81 : decode cX17_colours 81 = .ok (.iinc 2 1, 3) := by decide +kernel
theorem dr_cX17_colours_84 : decode cX17_colours 84 = .ok (.aload_n 0, 1) := by decide +kernel
theorem dr_cX17_colours_85 : decode cX17_colours 85 = .ok (.getfield 206, 3) := by decide +kernel
theorem dr_cX17_colours_88 : decode cX17_colours 88 = .ok (.iload_n 3, 1) := by decide +kernel
theorem dr_cX17_colours_89 : decode cX17_colours 89 = .ok (.iconst 0, 1) := by decide +kernel
theorem dr_cX17_colours_90 : decode cX17_colours 90 = .ok (.bastore, 1) := by decide +kernel
theorem dr_cX17_colours_91 : decode cX17_colours 91 = .ok (.iconst 0, 1) := by decide +kernel
theorem dr_cX17_colours_92 : decode cX17_colours 92 = .ok (.istore 4, 2) := by decide +kernel
theorem dr_cX17_colours_94 : decode cX17_colours 94 = .ok (.iload 4, 2) := by decide +kernel
theorem dr_cX17_colours_96 : decode cX17_colours 96 = .ok (.sipush 2000, 3) := by decide +kernel
theorem dr_cX17_colours_99 : decode cX17_colours 99 = .ok (.if_icmp .ge 34, 3) := by decide +kernel
theorem dr_cX17_colours_133 : decode cX17_colours 133 = .ok (.aload_n 0, 1) := by decide +kernel
theorem dr_cX17_colours_134 : decode cX17_colours 134 = .ok (.iload_n 1, 1) := by decide +kernel
theorem dr_cX17_colours_135 : decode cX17_colours 135 = .ok (.invokevirtual 215, 3) := by decide +kernel
theorem dr_cX17_colours_138 : decode cX17_colours 138 = .ok (.istore_n 3, 1) := by decide +kernel
theorem dr_cX17_colours_139 : decode cX17_colours 139 = .ok (.goto (-69), 3) := by decide +kernel
theorem dr_cX17_colours_102 : decode cX17_colours 102 = .ok (.aload_n 0, 1) := by decide +kernel
theorem dr_cX17_colours_103 : decode cX17_colours 103 = .ok (.getfield 135, 3) := by decide +kernel
theorem dr_cX17_colours_106 : decode cX17_colours 106 = .ok (.iload_n 3, 1) := by decide +kernel
theorem dr_cX17_colours_107 : decode cX17_colours 107 = .ok (.aaload, 1) := by decide +kernel
theorem dr_cX17_colours_108 : decode cX17_colours 108 = .ok (.iload 4, 2) := by decide +kernel
theorem dr_cX17_colours_110 : decode cX17_colours 110 = .ok (.invokestatic 145, 3) := by decide +kernel
theorem dr_cX17_colours_113 : decode cX17_colours 113 = .ok (.ifCond .eq 14, 3) := by decide +kernel
theorem dr_cX17_colours_127 : decode cX17_colours 127 = .ok (.iinc 4 1, 3) := by decide +kernel
theorem dr_cX17_colours_130 : decode cX17_colours 130 = .ok (.goto (-36), 3) := by decide +kernel
theorem dr_cX17_colours_116 : decode cX17_colours 116 = .ok (.aload_n 0, 1) := by decide +kernel
theorem dr_cX17_colours_117 : decode cX17_colours 117 = .ok (.getfield 209, 3) := by decide +kernel
theorem dr_cX17_colours_120 : decode cX17_colours 120 = .ok (.iload 4, 2) := by decide +kernel
theorem dr_cX17_colours_122 : decode cX17_colours 122 = .ok (.dup2, 1) := by decide +kernel
theorem dr_cX17_colours_123 : decode cX17_colours 123 = .ok (.iaload, 1) := by decide +kernel
theorem dr_cX17_colours_124 : decode cX17_colours 124 = .ok (.iconst 1, 1) := by decide +kernel
theorem dr_cX17_colours_125 : decode cX17_colours 125 = .ok (.isub, 1) := by decide +kernel
theorem dr_cX17_colours_126 : decode cX17_colours 126 = .ok (.iastore, 1) := by decide +kernel
theorem dr_cX17_colours_9 : decode cX17_colours 9 = .ok (.aload_n 0, 1) := by decide +kernel
theorem dr_cX17_colours_10 : decode cX17_colours 10 = .ok (.getfield 206, 3) := by decide +kernel
theorem dr_cX17_colours_13 : decode cX17_colours 13 = .ok (.iload_n 2, 1) := by decide +kernel
theorem dr_cX17_colours_14 : decode cX17_colours 14 = .ok (.aload_n 0, 1) := by decide +kernel
theorem dr_cX17_colours_15 : decode cX17_colours 15 = .ok (.getfield 131, 3) := by decide +kernel
theorem dr_cX17_colours_18 : decode cX17_colours 18 = .ok (.iload_n 2, 1) := by decide +kernel
theorem dr_cX17_colours_19 : decode cX17_colours 19 = .ok (.baload, 1) := by decide +kernel
theorem dr_cX17_colours_20 : decode cX17_colours 20 = .ok (.bastore, 1) := by decide +kernel
theorem dr_cX17_colours_21 : decode cX17_colours 21 = .ok (.aload_n 0, 1) := by decide +kernel
theorem dr_cX17_colours_22 : decode cX17_colours 22 = .ok (.getfield 209, 3) := by decide +kernel
theorem dr_cX17_colours_25 : decode cX17_colours 25 = .ok (.iload_n 2, 1) := by decide +kernel
theorem dr_cX17_colours_26 : decode cX17_colours 26 = .ok (.aload_n 0, 1) := by decide +kernel
theorem dr_cX17_colours_27 : decode cX17_colours 27 = .ok (.getfield 131, 3) := by decide +kernel
theorem dr_cX17_colours_30 : decode cX17_colours 30 = .ok (.iload_n 2, 1) := by decide +kernel
theorem dr_cX17_colours_31 : decode cX17_colours 31 = .ok (.baload, 1) := by decide +kernel
theorem dr_cX17_colours_32 : decode cX17_colours 32 = .ok (.ifCond .eq 15, 3) := by decide +kernel
theorem dr_cX17_colours_47 : decode cX17_colours 47 = .ok (.iconst 0, 1) := by decide +kernel
theorem dr_cX17_colours_48 : decode cX17_colours 48 = .ok (.iastore, 1) := by decide +kernel
theorem dr_cX17_colours_49 : decode cX17_colours 49 = .ok (.aload_n 0, 1) := by decide +kernel
theorem dr_cX17_colours_50 : decode cX17_colours 50 = .ok (.getfield 212, 3) := by decide +kernel
theorem dr_cX17_colours_53 : decode cX17_colours 53 = .ok (.iload_n 2, 1) := by decide +kernel
theorem dr_cX17_colours_54 : decode cX17_colours 54 = .ok (.iconst (-1), 1) := by decide +kernel
theorem dr_cX17_colours_55 : decode cX17_colours 55 = .ok (.iastore, 1) := by decide +kernel
theorem dr_cX17_colours_56 : decode cX17_colours 56 = .ok (.iinc 2 1, 3) := by decide +kernel
theorem dr_cX17_colours_59 : decode cX17_colours 59 = .ok (.goto (-57), 3) := by decide +kernel
theorem dr_cX17_colours_35 : decode cX17_colours 35 = .ok (.aload_n 0, 1) := by decide +kernel
theorem dr_cX17_colours_36 : decode cX17_colours 36 = .ok (.getfield 135, 3) := by decide +kernel
theorem dr_cX17_colours_39 : decode cX17_colours 39 = .ok (.iload_n 2, 1) := by decide +kernel
theorem dr_cX17_colours_40 : decode cX17_colours 40 = .ok (.aaload, 1) := by decide +kernel
theorem dr_cX17_colours_41 : decode cX17_colours 41 = .ok (.invokestatic 202, 3) := by decide +kernel
theorem dr_cX17_colours_44 : decode cX17_colours 44 = .ok (.goto 4, 3) := by decide +kernel
abbrev ky_367927_SpillForgeModel_next : gKey := (cX17_next, 7, "SpillForgeModel", (some FieldType.int), [], "next", fun _ _ => True)
def pt_367927_SpillForgeModel_next (D : va_G) (I : FieldType → ClassId) (γ el : Nat → Nat → Nat) (P367923 : List Nat) (F367924 : Nat → va_E) (q367925 : Nat) (p367926 : Int32) : Option Value → va_W → Nat → Nat → Prop := fun r w dc ds => ∃ (o368633 : Int32), r = some (.int o368633) ∧ w = va_pl P367923 F367924 ∧ dc ≤ 0 ∧ ds ≤ 0 ∧ gB o368633 (-1) 1999 ∧ (gIp (0 ≤ o368633.toInt) (rSd (cB (F367924 (γ 9 18))) (o368633.toInt : Int).toNat)) ∧ (gIp (o368633.toInt < 0) (∀ m : Nat, ¬ rSd (cB (F367924 (γ 9 18))) m))
set_option maxRecDepth 100000 in
set_option maxHeartbeats 4000000 in
theorem ct_367927_SpillForgeModel_next (l : Launch) (hl0 : l.stackTraces = false) (D : va_G) (I : FieldType → ClassId) (γ el : Nat → Nat → Nat) (P367923 : List Nat) (F367924 : Nat → va_E) (q367925 : Nat) (p367926 : Int32) (hT : RS D I P367923 F367924 γ el) (htq367925 : rKd γ q367925 10) : CtA (gV D I) l yX17_next cX17_next 7 (some FieldType.int) 0 0 0 0 [.ref q367925, .int p367926] (va_pl P367923 F367924) (pt_367927_SpillForgeModel_next D I γ el P367923 F367924 q367925 p367926) gNA := by
  refine CtA_of hl0 (by decide) (Nat.le_of_ble_eq_true rfl) ?_
  have bp367926 := gB_any p367926
  have hm367928 : q367925 ∈ P367923 := RS_m hT htq367925 (by decide)
  obtain ⟨q367930, q367931, p367932, p367933, p367934, p367935, p367936, p367937, p367938, p367939, p367940, p367941, p367942, p367943, p367944, p367945, p367946, he367929, hB367973, ht367947, ht367948, ht367949, ht367950, ht367951, ht367952, ht367953, ht367954, ht367955, ht367956, ht367957, ht367958, ht367959, ht367960, ht367961, ht367962, ht367963, ht367964, ht367965, ht367966, ht367967, ht367968, ht367969, ht367970, hB367974⟩ := show rk_10 γ (F367924 q367925) from RS_o hT htq367925
  have hm367975 : (γ 9 18) ∈ P367923 := RS_m hT ht367961 (by decide)
  obtain ⟨f367977, he367976, bf367977⟩ := show rk_15 I (F367924 (γ 9 18)) from RS_o hT ht367961
  refine G_iconst 0 dr_cX17_next_0 (by decide +kernel) ?_
  refine G_istore_n (L' := [(2, .int 0), (0, .ref q367925), (1, .int p367926)]) dr_cX17_next_1 (Nat.le_of_ble_eq_true rfl) rfl ?_
  have hlp2_368432 : ∀ (n2_368432 : Nat) (g368432 : Int32), gB g368432 0 2000 → ((2001 : Int) - g368432.toInt).toNat < n2_368432 → G (gV D I) l (gRm 0 0 0 0) (gMA (gV D I) (pt_367927_SpillForgeModel_next D I γ el P367923 F367924 q367925 p367926) gNA 0 0) ky_367927_SpillForgeModel_next 2 [(2, .int g368432), (0, .ref q367925), (1, .int p367926)] [] (va_pl P367923 F367924) 0 0 := by
    intro n2_368432
    induction n2_368432 with
    | zero => intro g368432 bg368432 hm2_368432; exact absurd hm2_368432 (Nat.not_lt_zero _)
    | succ n2_368432 ih2_368432 =>
      intro g368432 bg368432 hm2_368432
      refine G_iload_n 0 dr_cX17_next_2 rfl ?_
      refine G_sipush 2000 dr_cX17_next_3 (by decide +kernel) ?_
      refine G_icmp_ge 36 dr_cX17_next_6 (by decide +kernel) (fun hc368434 => ?_) (fun hc368434 => ?_)
      · have r368435 : 2000 ≤ g368432.toInt := gj_leL hc368434 (show Int32.toInt 2000 = 2000 by decide)
        have bg368432' : gB g368432 2000 2000 := ⟨by omega, by omega⟩
        refine G_iconst (-1) dr_cX17_next_36 (by decide +kernel) ?_
        refine G_istore_n (L' := [(2, .int (-1)), (0, .ref q367925), (1, .int p367926)]) dr_cX17_next_37 (Nat.le_of_ble_eq_true rfl) rfl ?_
        refine G_iconst 0 dr_cX17_next_38 (by decide +kernel) ?_
        refine G_istore_n (L' := [(3, .int 0), (2, .int (-1)), (0, .ref q367925), (1, .int p367926)]) dr_cX17_next_39 (Nat.le_of_ble_eq_true rfl) rfl ?_
        have hlp40_368529 : ∀ (n40_368529 : Nat) (g368526 : Int32) (g368527 : Int32), gB g368526 0 2000 → gB g368527 (-1) 1999 → (gIp (g368527.toInt < 0) (∀ m : Nat, (m : Int) < g368526.toInt → ¬ rSd (cB (F367924 (γ 9 18))) m)) → (gIp (0 ≤ g368527.toInt) (rSd (cB (F367924 (γ 9 18))) (g368527.toInt : Int).toNat)) → ((2001 : Int) - g368526.toInt).toNat < n40_368529 → G (gV D I) l (gRm 0 0 0 0) (gMA (gV D I) (pt_367927_SpillForgeModel_next D I γ el P367923 F367924 q367925 p367926) gNA 0 0) ky_367927_SpillForgeModel_next 40 [(3, .int g368526), (2, .int g368527), (0, .ref q367925), (1, .int p367926)] [] (va_pl P367923 F367924) 0 0 := by
          intro n40_368529
          induction n40_368529 with
          | zero => intro g368526 g368527 bg368526 bg368527 x368528 x368529 hm40_368529; exact absurd hm40_368529 (Nat.not_lt_zero _)
          | succ n40_368529 ih40_368529 =>
            intro g368526 g368527 bg368526 bg368527 x368528 x368529 hm40_368529
            refine G_iload_n 0 dr_cX17_next_40 rfl ?_
            refine G_sipush 2000 dr_cX17_next_41 (by decide +kernel) ?_
            refine G_icmp_ge 171 dr_cX17_next_44 (by decide +kernel) (fun hc368531 => ?_) (fun hc368531 => ?_)
            · have r368532 : 2000 ≤ g368526.toInt := gj_leL hc368531 (show Int32.toInt 2000 = 2000 by decide)
              have bg368526' : gB g368526 2000 2000 := ⟨by omega, by omega⟩
              refine G_iload_n 1 dr_cX17_next_171 rfl ?_
              exact G_iretA dr_cX17_next_172 rfl (Nat.le_of_ble_eq_true rfl) (Nat.le_of_ble_eq_true rfl) ⟨g368527, rfl, rfl, (Nat.le_of_ble_eq_true rfl), (Nat.le_of_ble_eq_true rfl), bg368527, x368529, (fun h m hm => x368528 h m (by have := hm.1; omega) hm)⟩
            · have r368533 : g368526.toInt < 2000 := gj_nleL hc368531 (show Int32.toInt 2000 = 2000 by decide)
              have bg368526' : gB g368526 0 1999 := ⟨by omega, by omega⟩
              refine G_aload_n 2 dr_cX17_next_47 rfl ?_
              refine Gp_get 18 hm367928 he367929 dr_cX17_next_48 (gk_X17 D I) (Nat.le_of_ble_eq_true rfl) wr_7_92 rfl ?_
              refine G_iload_n 0 dr_cX17_next_51 rfl ?_
              refine Gp_zald 3 hm367975 he367976 dr_cX17_next_52 rfl (gB_in bg368526' (by decide) (by decide)) (G_nam fun z368534 hz368534 => ?_)
              have bz368534 : gB z368534 0 1 := by rw [hz368534]; exact bf367977 _
              refine G_if_ne 59 dr_cX17_next_53 (by decide +kernel) (fun hc368535 => ?_) (fun hc368535 => ?_)
              · have r368536 : z368534.toInt ≠ 0 := gj_neq hc368535 (show Int32.toInt 0 = 0 by decide)
                have bz368534' : gB z368534 1 1 := ⟨by omega, by omega⟩
                refine G_iload_n 1 dr_cX17_next_59 rfl ?_
                refine G_if_ge 68 dr_cX17_next_60 (by decide +kernel) (fun hc368537 => ?_) (fun hc368537 => ?_)
                · have r368538 : 0 ≤ g368527.toInt := gj_leL hc368537 (show Int32.toInt 0 = 0 by decide)
                  have bg368527' : gB g368527 0 1999 := ⟨by omega, by omega⟩
                  refine G_iload_n 0 dr_cX17_next_68 rfl ?_
                  refine G_bipush 100 dr_cX17_next_69 (by decide +kernel) ?_
                  refine G_icmp_lt 78 dr_cX17_next_71 (by decide +kernel) (fun hc368539 => ?_) (fun hc368539 => ?_)
                  · have r368540 : g368526.toInt < 100 := gj_lt hc368539 (show Int32.toInt 100 = 100 by decide)
                    have bg368526'' : gB g368526 0 99 := ⟨by omega, by omega⟩
                    refine G_iconst 0 dr_cX17_next_78 (by decide +kernel) ?_
                    refine G_istore (L' := [(4, .int 0), (3, .int g368526), (2, .int g368527), (0, .ref q367925), (1, .int p367926)]) dr_cX17_next_79 (Nat.le_of_ble_eq_true rfl) rfl ?_
                    refine G_iload_n 2 dr_cX17_next_81 rfl ?_
                    refine G_bipush 100 dr_cX17_next_82 (by decide +kernel) ?_
                    refine G_icmp_lt 91 dr_cX17_next_84 (by decide +kernel) (fun hc368541 => ?_) (fun hc368541 => ?_)
                    · have r368542 : g368527.toInt < 100 := gj_lt hc368541 (show Int32.toInt 100 = 100 by decide)
                      have bg368527'' : gB g368527 0 99 := ⟨by omega, by omega⟩
                      refine G_iconst 0 dr_cX17_next_91 (by decide +kernel) ?_
                      refine G_istore (L' := [(5, .int 0), (4, .int 0), (3, .int g368526), (2, .int g368527), (0, .ref q367925), (1, .int p367926)]) dr_cX17_next_92 (Nat.le_of_ble_eq_true rfl) rfl ?_
                      refine G_iload 1 dr_cX17_next_94 rfl ?_
                      refine G_if_eq 107 dr_cX17_next_96 (by decide +kernel) (fun _ => ?_) (fun hc => absurd hc (by decide))
                      refine G_aload_n 4 dr_cX17_next_107 rfl ?_
                      refine Gp_get 5 hm367928 he367929 dr_cX17_next_108 (gk_X17 D I) (Nat.le_of_ble_eq_true rfl) wr_7_79 rfl ?_
                      refine G_iload_n 2 dr_cX17_next_111 rfl ?_
                      have hm368543 : (γ 9 5) ∈ P367923 := RS_m hT ht367954 (by decide)
                      obtain ⟨f368545, he368544⟩ := show rk_17 I (F367924 (γ 9 5)) from RS_o hT ht367954
                      refine Gp_iald 0 hm368543 he368544 dr_cX17_next_112 rfl (gB_in bg368526'' (by decide) (by decide)) (G_nam fun z368546 hz368546 => ?_)
                      have bz368546 : gB z368546 (-2147483648) 2147483647 := gB_any z368546
                      refine G_i2l dr_cX17_next_113 (G_namL fun u368547 hu368547 => ?_)
                      refine G_aload_n 4 dr_cX17_next_114 rfl ?_
                      refine Gp_get 16 hm367928 he367929 dr_cX17_next_115 (gk_X17 D I) (Nat.le_of_ble_eq_true rfl) wr_7_90 rfl ?_
                      refine G_iload_n 3 dr_cX17_next_118 rfl ?_
                      have hm368548 : (γ 9 16) ∈ P367923 := RS_m hT ht367959 (by decide)
                      obtain ⟨f368550, he368549⟩ := show rk_19 I (F367924 (γ 9 16)) from RS_o hT ht367959
                      refine Gp_iald 0 hm368548 he368549 dr_cX17_next_119 rfl (gB_in bg368527'' (by decide) (by decide)) (G_nam fun z368551 hz368551 => ?_)
                      have bz368551 : gB z368551 (-2147483648) 2147483647 := gB_any z368551
                      refine G_i2l dr_cX17_next_120 (G_namL fun u368552 hu368552 => ?_)
                      refine G_lmul dr_cX17_next_121 (G_namL fun u368553 hu368553 => ?_)
                      refine G_aload_n 4 dr_cX17_next_122 rfl ?_
                      refine Gp_get 5 hm367928 he367929 dr_cX17_next_123 (gk_X17 D I) (Nat.le_of_ble_eq_true rfl) wr_7_79 rfl ?_
                      refine G_iload_n 3 dr_cX17_next_126 rfl ?_
                      refine Gp_iald 0 hm368543 he368544 dr_cX17_next_127 rfl (gB_in bg368527'' (by decide) (by decide)) (G_nam fun z368554 hz368554 => ?_)
                      have bz368554 : gB z368554 (-2147483648) 2147483647 := gB_any z368554
                      refine G_i2l dr_cX17_next_128 (G_namL fun u368555 hu368555 => ?_)
                      refine G_aload_n 4 dr_cX17_next_129 rfl ?_
                      refine Gp_get 16 hm367928 he367929 dr_cX17_next_130 (gk_X17 D I) (Nat.le_of_ble_eq_true rfl) wr_7_90 rfl ?_
                      refine G_iload_n 2 dr_cX17_next_133 rfl ?_
                      refine Gp_iald 0 hm368548 he368549 dr_cX17_next_134 rfl (gB_in bg368526'' (by decide) (by decide)) (G_nam fun z368556 hz368556 => ?_)
                      have bz368556 : gB z368556 (-2147483648) 2147483647 := gB_any z368556
                      refine G_i2l dr_cX17_next_135 (G_namL fun u368557 hu368557 => ?_)
                      refine G_lmul dr_cX17_next_136 (G_namL fun u368558 hu368558 => ?_)
                      refine G_lcmp dr_cX17_next_137 (G_nam fun z368559 hz368559 => ?_)
                      have bz368559 : gB z368559 (-1) 1 := gB_cmp hz368559
                      refine G_if_ge 145 dr_cX17_next_138 (by decide +kernel) (fun hc368560 => ?_) (fun hc368560 => ?_)
                      · have r368561 : 0 ≤ z368559.toInt := gj_leL hc368560 (show Int32.toInt 0 = 0 by decide)
                        have bz368559' : gB z368559 0 1 := ⟨by omega, by omega⟩
                        refine G_iconst 0 dr_cX17_next_145 (by decide +kernel) ?_
                        refine G_istore (L' := [(6, .int 0), (5, .int 0), (4, .int 0), (3, .int g368526), (2, .int g368527), (0, .ref q367925), (1, .int p367926)]) dr_cX17_next_146 (Nat.le_of_ble_eq_true rfl) rfl ?_
                        refine G_iload 2 dr_cX17_next_148 rfl ?_
                        refine G_if_ne 158 dr_cX17_next_150 (by decide +kernel) (fun hc => absurd hc (by decide)) (fun _ => ?_)
                        refine G_iload 1 dr_cX17_next_153 rfl ?_
                        refine G_if_ne 163 dr_cX17_next_155 (by decide +kernel) (fun hc => absurd hc (by decide)) (fun _ => ?_)
                        refine G_iload 0 dr_cX17_next_158 rfl ?_
                        refine G_if_eq 165 dr_cX17_next_160 (by decide +kernel) (fun _ => ?_) (fun hc => absurd hc (by decide))
                        obtain ⟨z368562, hz368562⟩ : ∃ z : Int32, z = g368526 + Int32.ofInt 1 := ⟨_, rfl⟩
                        have ez368562 : z368562.toInt = g368526.toInt + 1 := gI_inc hz368562 (by decide) bg368526'' (by decide) (by decide)
                        have bz368562 : gB z368562 1 100 := ⟨by omega, by omega⟩
                        refine G_iinc (L' := [(3, .int z368562), (6, .int 0), (5, .int 0), (4, .int 0), (2, .int g368527), (0, .ref q367925), (1, .int p367926)]) z368562 3 dr_cX17_next_165 rfl hz368562.symm (Nat.le_of_ble_eq_true rfl) rfl ?_
                        refine G_goto 40 dr_cX17_next_168 (by decide +kernel) ?_
                        refine G_lv (L' := [(3, .int z368562), (2, .int g368527), (0, .ref q367925), (1, .int p367926)]) [0, 4, 5, 6] rfl ?_
                        exact ih40_368529 z368562 g368527 (gB_w bz368562 (by decide) (by decide)) (gB_w bg368527'' (by decide) (by decide)) (by first | exact fun h => absurd h (by omega) | exact fun h => (by rw [ez368562]; rw [cB_of he367976]; have q := x368528; rw [cB_of he367976] at q; exact nx_0 (q h) hz368534 (by omega) rfl)) x368529 (by omega)
                      · have r368563 : z368559.toInt < 0 := gj_nleL hc368560 (show Int32.toInt 0 = 0 by decide)
                        have bz368559' : gB z368559 (-1) (-1) := ⟨by omega, by omega⟩
                        have lhc368560 := gC_cmpS hz368559 (by omega)
                        refine G_iconst 1 dr_cX17_next_141 (by decide +kernel) ?_
                        refine G_goto 146 dr_cX17_next_142 (by decide +kernel) ?_
                        refine G_istore (L' := [(6, .int 1), (5, .int 0), (4, .int 0), (3, .int g368526), (2, .int g368527), (0, .ref q367925), (1, .int p367926)]) dr_cX17_next_146 (Nat.le_of_ble_eq_true rfl) rfl ?_
                        refine G_iload 2 dr_cX17_next_148 rfl ?_
                        refine G_if_ne 158 dr_cX17_next_150 (by decide +kernel) (fun hc => absurd hc (by decide)) (fun _ => ?_)
                        refine G_iload 1 dr_cX17_next_153 rfl ?_
                        refine G_if_ne 163 dr_cX17_next_155 (by decide +kernel) (fun hc => absurd hc (by decide)) (fun _ => ?_)
                        refine G_iload 0 dr_cX17_next_158 rfl ?_
                        refine G_if_eq 165 dr_cX17_next_160 (by decide +kernel) (fun hc => absurd hc (by decide)) (fun _ => ?_)
                        refine G_iload_n 3 dr_cX17_next_163 rfl ?_
                        refine G_istore_n (L' := [(2, .int g368526), (6, .int 1), (5, .int 0), (4, .int 0), (3, .int g368526), (0, .ref q367925), (1, .int p367926)]) dr_cX17_next_164 (Nat.le_of_ble_eq_true rfl) rfl ?_
                        obtain ⟨z368564, hz368564⟩ : ∃ z : Int32, z = g368526 + Int32.ofInt 1 := ⟨_, rfl⟩
                        have ez368564 : z368564.toInt = g368526.toInt + 1 := gI_inc hz368564 (by decide) bg368526'' (by decide) (by decide)
                        have bz368564 : gB z368564 1 100 := ⟨by omega, by omega⟩
                        refine G_iinc (L' := [(3, .int z368564), (2, .int g368526), (6, .int 1), (5, .int 0), (4, .int 0), (0, .ref q367925), (1, .int p367926)]) z368564 4 dr_cX17_next_165 rfl hz368564.symm (Nat.le_of_ble_eq_true rfl) rfl ?_
                        refine G_goto 40 dr_cX17_next_168 (by decide +kernel) ?_
                        refine G_lv (L' := [(3, .int z368564), (2, .int g368526), (0, .ref q367925), (1, .int p367926)]) [0, 1, 5, 6] rfl ?_
                        exact ih40_368529 z368564 g368526 (gB_w bz368564 (by decide) (by decide)) (gB_w bg368526'' (by decide) (by decide)) (by first | exact fun h => absurd h (by omega) | exact fun h => (by rw [ez368564]; rw [cB_of he367976]; have q := x368528; rw [cB_of he367976] at q; exact nx_0 (q h) hz368534 (by omega) rfl)) (fun _ => by rw [cB_of he367976]; exact sd_of hz368534 (by omega) (by omega) (by omega)) (by omega)
                    · have r368565 : 100 ≤ g368527.toInt := gj_nlt hc368541 (show Int32.toInt 100 = 100 by decide)
                      have bg368527'' : gB g368527 100 1999 := ⟨by omega, by omega⟩
                      refine G_iconst 1 dr_cX17_next_87 (by decide +kernel) ?_
                      refine G_goto 92 dr_cX17_next_88 (by decide +kernel) ?_
                      refine G_istore (L' := [(5, .int 1), (4, .int 0), (3, .int g368526), (2, .int g368527), (0, .ref q367925), (1, .int p367926)]) dr_cX17_next_92 (Nat.le_of_ble_eq_true rfl) rfl ?_
                      refine G_iload 1 dr_cX17_next_94 rfl ?_
                      refine G_if_eq 107 dr_cX17_next_96 (by decide +kernel) (fun _ => ?_) (fun hc => absurd hc (by decide))
                      refine G_aload_n 4 dr_cX17_next_107 rfl ?_
                      refine Gp_get 5 hm367928 he367929 dr_cX17_next_108 (gk_X17 D I) (Nat.le_of_ble_eq_true rfl) wr_7_79 rfl ?_
                      refine G_iload_n 2 dr_cX17_next_111 rfl ?_
                      have hm368566 : (γ 9 5) ∈ P367923 := RS_m hT ht367954 (by decide)
                      obtain ⟨f368568, he368567⟩ := show rk_17 I (F367924 (γ 9 5)) from RS_o hT ht367954
                      refine Gp_iald 0 hm368566 he368567 dr_cX17_next_112 rfl (gB_in bg368526'' (by decide) (by decide)) (G_nam fun z368569 hz368569 => ?_)
                      have bz368569 : gB z368569 (-2147483648) 2147483647 := gB_any z368569
                      refine G_i2l dr_cX17_next_113 (G_namL fun u368570 hu368570 => ?_)
                      refine G_aload_n 4 dr_cX17_next_114 rfl ?_
                      refine Gp_get 16 hm367928 he367929 dr_cX17_next_115 (gk_X17 D I) (Nat.le_of_ble_eq_true rfl) wr_7_90 rfl ?_
                      refine G_iload_n 3 dr_cX17_next_118 rfl ?_
                      have hm368571 : (γ 9 16) ∈ P367923 := RS_m hT ht367959 (by decide)
                      obtain ⟨f368573, he368572⟩ := show rk_19 I (F367924 (γ 9 16)) from RS_o hT ht367959
                      refine Gp_iald 0 hm368571 he368572 dr_cX17_next_119 rfl (gB_in bg368527'' (by decide) (by decide)) (G_nam fun z368574 hz368574 => ?_)
                      have bz368574 : gB z368574 (-2147483648) 2147483647 := gB_any z368574
                      refine G_i2l dr_cX17_next_120 (G_namL fun u368575 hu368575 => ?_)
                      refine G_lmul dr_cX17_next_121 (G_namL fun u368576 hu368576 => ?_)
                      refine G_aload_n 4 dr_cX17_next_122 rfl ?_
                      refine Gp_get 5 hm367928 he367929 dr_cX17_next_123 (gk_X17 D I) (Nat.le_of_ble_eq_true rfl) wr_7_79 rfl ?_
                      refine G_iload_n 3 dr_cX17_next_126 rfl ?_
                      refine Gp_iald 0 hm368566 he368567 dr_cX17_next_127 rfl (gB_in bg368527'' (by decide) (by decide)) (G_nam fun z368577 hz368577 => ?_)
                      have bz368577 : gB z368577 (-2147483648) 2147483647 := gB_any z368577
                      refine G_i2l dr_cX17_next_128 (G_namL fun u368578 hu368578 => ?_)
                      refine G_aload_n 4 dr_cX17_next_129 rfl ?_
                      refine Gp_get 16 hm367928 he367929 dr_cX17_next_130 (gk_X17 D I) (Nat.le_of_ble_eq_true rfl) wr_7_90 rfl ?_
                      refine G_iload_n 2 dr_cX17_next_133 rfl ?_
                      refine Gp_iald 0 hm368571 he368572 dr_cX17_next_134 rfl (gB_in bg368526'' (by decide) (by decide)) (G_nam fun z368579 hz368579 => ?_)
                      have bz368579 : gB z368579 (-2147483648) 2147483647 := gB_any z368579
                      refine G_i2l dr_cX17_next_135 (G_namL fun u368580 hu368580 => ?_)
                      refine G_lmul dr_cX17_next_136 (G_namL fun u368581 hu368581 => ?_)
                      refine G_lcmp dr_cX17_next_137 (G_nam fun z368582 hz368582 => ?_)
                      have bz368582 : gB z368582 (-1) 1 := gB_cmp hz368582
                      refine G_if_ge 145 dr_cX17_next_138 (by decide +kernel) (fun hc368583 => ?_) (fun hc368583 => ?_)
                      · have r368584 : 0 ≤ z368582.toInt := gj_leL hc368583 (show Int32.toInt 0 = 0 by decide)
                        have bz368582' : gB z368582 0 1 := ⟨by omega, by omega⟩
                        refine G_iconst 0 dr_cX17_next_145 (by decide +kernel) ?_
                        refine G_istore (L' := [(6, .int 0), (5, .int 1), (4, .int 0), (3, .int g368526), (2, .int g368527), (0, .ref q367925), (1, .int p367926)]) dr_cX17_next_146 (Nat.le_of_ble_eq_true rfl) rfl ?_
                        refine G_iload 2 dr_cX17_next_148 rfl ?_
                        refine G_if_ne 158 dr_cX17_next_150 (by decide +kernel) (fun hc => absurd hc (by decide)) (fun _ => ?_)
                        refine G_iload 1 dr_cX17_next_153 rfl ?_
                        refine G_if_ne 163 dr_cX17_next_155 (by decide +kernel) (fun _ => ?_) (fun hc => absurd hc (by decide))
                        refine G_iload_n 3 dr_cX17_next_163 rfl ?_
                        refine G_istore_n (L' := [(2, .int g368526), (6, .int 0), (5, .int 1), (4, .int 0), (3, .int g368526), (0, .ref q367925), (1, .int p367926)]) dr_cX17_next_164 (Nat.le_of_ble_eq_true rfl) rfl ?_
                        obtain ⟨z368585, hz368585⟩ : ∃ z : Int32, z = g368526 + Int32.ofInt 1 := ⟨_, rfl⟩
                        have ez368585 : z368585.toInt = g368526.toInt + 1 := gI_inc hz368585 (by decide) bg368526'' (by decide) (by decide)
                        have bz368585 : gB z368585 1 100 := ⟨by omega, by omega⟩
                        refine G_iinc (L' := [(3, .int z368585), (2, .int g368526), (6, .int 0), (5, .int 1), (4, .int 0), (0, .ref q367925), (1, .int p367926)]) z368585 4 dr_cX17_next_165 rfl hz368585.symm (Nat.le_of_ble_eq_true rfl) rfl ?_
                        refine G_goto 40 dr_cX17_next_168 (by decide +kernel) ?_
                        refine G_lv (L' := [(3, .int z368585), (2, .int g368526), (0, .ref q367925), (1, .int p367926)]) [0, 1, 5, 6] rfl ?_
                        exact ih40_368529 z368585 g368526 (gB_w bz368585 (by decide) (by decide)) (gB_w bg368526'' (by decide) (by decide)) (by first | exact fun h => absurd h (by omega) | exact fun h => (by rw [ez368585]; rw [cB_of he367976]; have q := x368528; rw [cB_of he367976] at q; exact nx_0 (q h) hz368534 (by omega) rfl)) (fun _ => by rw [cB_of he367976]; exact sd_of hz368534 (by omega) (by omega) (by omega)) (by omega)
                      · have r368586 : z368582.toInt < 0 := gj_nleL hc368583 (show Int32.toInt 0 = 0 by decide)
                        have bz368582' : gB z368582 (-1) (-1) := ⟨by omega, by omega⟩
                        have lhc368583 := gC_cmpS hz368582 (by omega)
                        refine G_iconst 1 dr_cX17_next_141 (by decide +kernel) ?_
                        refine G_goto 146 dr_cX17_next_142 (by decide +kernel) ?_
                        refine G_istore (L' := [(6, .int 1), (5, .int 1), (4, .int 0), (3, .int g368526), (2, .int g368527), (0, .ref q367925), (1, .int p367926)]) dr_cX17_next_146 (Nat.le_of_ble_eq_true rfl) rfl ?_
                        refine G_iload 2 dr_cX17_next_148 rfl ?_
                        refine G_if_ne 158 dr_cX17_next_150 (by decide +kernel) (fun hc => absurd hc (by decide)) (fun _ => ?_)
                        refine G_iload 1 dr_cX17_next_153 rfl ?_
                        refine G_if_ne 163 dr_cX17_next_155 (by decide +kernel) (fun _ => ?_) (fun hc => absurd hc (by decide))
                        refine G_iload_n 3 dr_cX17_next_163 rfl ?_
                        refine G_istore_n (L' := [(2, .int g368526), (6, .int 1), (5, .int 1), (4, .int 0), (3, .int g368526), (0, .ref q367925), (1, .int p367926)]) dr_cX17_next_164 (Nat.le_of_ble_eq_true rfl) rfl ?_
                        obtain ⟨z368587, hz368587⟩ : ∃ z : Int32, z = g368526 + Int32.ofInt 1 := ⟨_, rfl⟩
                        have ez368587 : z368587.toInt = g368526.toInt + 1 := gI_inc hz368587 (by decide) bg368526'' (by decide) (by decide)
                        have bz368587 : gB z368587 1 100 := ⟨by omega, by omega⟩
                        refine G_iinc (L' := [(3, .int z368587), (2, .int g368526), (6, .int 1), (5, .int 1), (4, .int 0), (0, .ref q367925), (1, .int p367926)]) z368587 4 dr_cX17_next_165 rfl hz368587.symm (Nat.le_of_ble_eq_true rfl) rfl ?_
                        refine G_goto 40 dr_cX17_next_168 (by decide +kernel) ?_
                        refine G_lv (L' := [(3, .int z368587), (2, .int g368526), (0, .ref q367925), (1, .int p367926)]) [0, 1, 5, 6] rfl ?_
                        exact ih40_368529 z368587 g368526 (gB_w bz368587 (by decide) (by decide)) (gB_w bg368526'' (by decide) (by decide)) (by first | exact fun h => absurd h (by omega) | exact fun h => (by rw [ez368587]; rw [cB_of he367976]; have q := x368528; rw [cB_of he367976] at q; exact nx_0 (q h) hz368534 (by omega) rfl)) (fun _ => by rw [cB_of he367976]; exact sd_of hz368534 (by omega) (by omega) (by omega)) (by omega)
                  · have r368588 : 100 ≤ g368526.toInt := gj_nlt hc368539 (show Int32.toInt 100 = 100 by decide)
                    have bg368526'' : gB g368526 100 1999 := ⟨by omega, by omega⟩
                    refine G_iconst 1 dr_cX17_next_74 (by decide +kernel) ?_
                    refine G_goto 79 dr_cX17_next_75 (by decide +kernel) ?_
                    refine G_istore (L' := [(4, .int 1), (3, .int g368526), (2, .int g368527), (0, .ref q367925), (1, .int p367926)]) dr_cX17_next_79 (Nat.le_of_ble_eq_true rfl) rfl ?_
                    refine G_iload_n 2 dr_cX17_next_81 rfl ?_
                    refine G_bipush 100 dr_cX17_next_82 (by decide +kernel) ?_
                    refine G_icmp_lt 91 dr_cX17_next_84 (by decide +kernel) (fun hc368589 => ?_) (fun hc368589 => ?_)
                    · have r368590 : g368527.toInt < 100 := gj_lt hc368589 (show Int32.toInt 100 = 100 by decide)
                      have bg368527'' : gB g368527 0 99 := ⟨by omega, by omega⟩
                      refine G_iconst 0 dr_cX17_next_91 (by decide +kernel) ?_
                      refine G_istore (L' := [(5, .int 0), (4, .int 1), (3, .int g368526), (2, .int g368527), (0, .ref q367925), (1, .int p367926)]) dr_cX17_next_92 (Nat.le_of_ble_eq_true rfl) rfl ?_
                      refine G_iload 1 dr_cX17_next_94 rfl ?_
                      refine G_if_eq 107 dr_cX17_next_96 (by decide +kernel) (fun hc => absurd hc (by decide)) (fun _ => ?_)
                      refine G_iload 0 dr_cX17_next_99 rfl ?_
                      refine G_if_ne 107 dr_cX17_next_101 (by decide +kernel) (fun hc => absurd hc (by decide)) (fun _ => ?_)
                      refine G_goto 165 dr_cX17_next_104 (by decide +kernel) ?_
                      obtain ⟨z368591, hz368591⟩ : ∃ z : Int32, z = g368526 + Int32.ofInt 1 := ⟨_, rfl⟩
                      have ez368591 : z368591.toInt = g368526.toInt + 1 := gI_inc hz368591 (by decide) bg368526'' (by decide) (by decide)
                      have bz368591 : gB z368591 101 2000 := ⟨by omega, by omega⟩
                      refine G_iinc (L' := [(3, .int z368591), (5, .int 0), (4, .int 1), (2, .int g368527), (0, .ref q367925), (1, .int p367926)]) z368591 2 dr_cX17_next_165 rfl hz368591.symm (Nat.le_of_ble_eq_true rfl) rfl ?_
                      refine G_goto 40 dr_cX17_next_168 (by decide +kernel) ?_
                      refine G_lv (L' := [(3, .int z368591), (2, .int g368527), (0, .ref q367925), (1, .int p367926)]) [0, 3, 4, 5] rfl ?_
                      exact ih40_368529 z368591 g368527 (gB_w bz368591 (by decide) (by decide)) (gB_w bg368527'' (by decide) (by decide)) (by first | exact fun h => absurd h (by omega) | exact fun h => (by rw [ez368591]; rw [cB_of he367976]; have q := x368528; rw [cB_of he367976] at q; exact nx_0 (q h) hz368534 (by omega) rfl)) x368529 (by omega)
                    · have r368592 : 100 ≤ g368527.toInt := gj_nlt hc368589 (show Int32.toInt 100 = 100 by decide)
                      have bg368527'' : gB g368527 100 1999 := ⟨by omega, by omega⟩
                      refine G_iconst 1 dr_cX17_next_87 (by decide +kernel) ?_
                      refine G_goto 92 dr_cX17_next_88 (by decide +kernel) ?_
                      refine G_istore (L' := [(5, .int 1), (4, .int 1), (3, .int g368526), (2, .int g368527), (0, .ref q367925), (1, .int p367926)]) dr_cX17_next_92 (Nat.le_of_ble_eq_true rfl) rfl ?_
                      refine G_iload 1 dr_cX17_next_94 rfl ?_
                      refine G_if_eq 107 dr_cX17_next_96 (by decide +kernel) (fun hc => absurd hc (by decide)) (fun _ => ?_)
                      refine G_iload 0 dr_cX17_next_99 rfl ?_
                      refine G_if_ne 107 dr_cX17_next_101 (by decide +kernel) (fun _ => ?_) (fun hc => absurd hc (by decide))
                      refine G_aload_n 4 dr_cX17_next_107 rfl ?_
                      refine Gp_get 5 hm367928 he367929 dr_cX17_next_108 (gk_X17 D I) (Nat.le_of_ble_eq_true rfl) wr_7_79 rfl ?_
                      refine G_iload_n 2 dr_cX17_next_111 rfl ?_
                      have hm368593 : (γ 9 5) ∈ P367923 := RS_m hT ht367954 (by decide)
                      obtain ⟨f368595, he368594⟩ := show rk_17 I (F367924 (γ 9 5)) from RS_o hT ht367954
                      refine Gp_iald 0 hm368593 he368594 dr_cX17_next_112 rfl (gB_in bg368526'' (by decide) (by decide)) (G_nam fun z368596 hz368596 => ?_)
                      have bz368596 : gB z368596 (-2147483648) 2147483647 := gB_any z368596
                      refine G_i2l dr_cX17_next_113 (G_namL fun u368597 hu368597 => ?_)
                      refine G_aload_n 4 dr_cX17_next_114 rfl ?_
                      refine Gp_get 16 hm367928 he367929 dr_cX17_next_115 (gk_X17 D I) (Nat.le_of_ble_eq_true rfl) wr_7_90 rfl ?_
                      refine G_iload_n 3 dr_cX17_next_118 rfl ?_
                      have hm368598 : (γ 9 16) ∈ P367923 := RS_m hT ht367959 (by decide)
                      obtain ⟨f368600, he368599⟩ := show rk_19 I (F367924 (γ 9 16)) from RS_o hT ht367959
                      refine Gp_iald 0 hm368598 he368599 dr_cX17_next_119 rfl (gB_in bg368527'' (by decide) (by decide)) (G_nam fun z368601 hz368601 => ?_)
                      have bz368601 : gB z368601 (-2147483648) 2147483647 := gB_any z368601
                      refine G_i2l dr_cX17_next_120 (G_namL fun u368602 hu368602 => ?_)
                      refine G_lmul dr_cX17_next_121 (G_namL fun u368603 hu368603 => ?_)
                      refine G_aload_n 4 dr_cX17_next_122 rfl ?_
                      refine Gp_get 5 hm367928 he367929 dr_cX17_next_123 (gk_X17 D I) (Nat.le_of_ble_eq_true rfl) wr_7_79 rfl ?_
                      refine G_iload_n 3 dr_cX17_next_126 rfl ?_
                      refine Gp_iald 0 hm368593 he368594 dr_cX17_next_127 rfl (gB_in bg368527'' (by decide) (by decide)) (G_nam fun z368604 hz368604 => ?_)
                      have bz368604 : gB z368604 (-2147483648) 2147483647 := gB_any z368604
                      refine G_i2l dr_cX17_next_128 (G_namL fun u368605 hu368605 => ?_)
                      refine G_aload_n 4 dr_cX17_next_129 rfl ?_
                      refine Gp_get 16 hm367928 he367929 dr_cX17_next_130 (gk_X17 D I) (Nat.le_of_ble_eq_true rfl) wr_7_90 rfl ?_
                      refine G_iload_n 2 dr_cX17_next_133 rfl ?_
                      refine Gp_iald 0 hm368598 he368599 dr_cX17_next_134 rfl (gB_in bg368526'' (by decide) (by decide)) (G_nam fun z368606 hz368606 => ?_)
                      have bz368606 : gB z368606 (-2147483648) 2147483647 := gB_any z368606
                      refine G_i2l dr_cX17_next_135 (G_namL fun u368607 hu368607 => ?_)
                      refine G_lmul dr_cX17_next_136 (G_namL fun u368608 hu368608 => ?_)
                      refine G_lcmp dr_cX17_next_137 (G_nam fun z368609 hz368609 => ?_)
                      have bz368609 : gB z368609 (-1) 1 := gB_cmp hz368609
                      refine G_if_ge 145 dr_cX17_next_138 (by decide +kernel) (fun hc368610 => ?_) (fun hc368610 => ?_)
                      · have r368611 : 0 ≤ z368609.toInt := gj_leL hc368610 (show Int32.toInt 0 = 0 by decide)
                        have bz368609' : gB z368609 0 1 := ⟨by omega, by omega⟩
                        refine G_iconst 0 dr_cX17_next_145 (by decide +kernel) ?_
                        refine G_istore (L' := [(6, .int 0), (5, .int 1), (4, .int 1), (3, .int g368526), (2, .int g368527), (0, .ref q367925), (1, .int p367926)]) dr_cX17_next_146 (Nat.le_of_ble_eq_true rfl) rfl ?_
                        refine G_iload 2 dr_cX17_next_148 rfl ?_
                        refine G_if_ne 158 dr_cX17_next_150 (by decide +kernel) (fun _ => ?_) (fun hc => absurd hc (by decide))
                        refine G_iload 0 dr_cX17_next_158 rfl ?_
                        refine G_if_eq 165 dr_cX17_next_160 (by decide +kernel) (fun _ => ?_) (fun hc => absurd hc (by decide))
                        obtain ⟨z368612, hz368612⟩ : ∃ z : Int32, z = g368526 + Int32.ofInt 1 := ⟨_, rfl⟩
                        have ez368612 : z368612.toInt = g368526.toInt + 1 := gI_inc hz368612 (by decide) bg368526'' (by decide) (by decide)
                        have bz368612 : gB z368612 101 2000 := ⟨by omega, by omega⟩
                        refine G_iinc (L' := [(3, .int z368612), (6, .int 0), (5, .int 1), (4, .int 1), (2, .int g368527), (0, .ref q367925), (1, .int p367926)]) z368612 3 dr_cX17_next_165 rfl hz368612.symm (Nat.le_of_ble_eq_true rfl) rfl ?_
                        refine G_goto 40 dr_cX17_next_168 (by decide +kernel) ?_
                        refine G_lv (L' := [(3, .int z368612), (2, .int g368527), (0, .ref q367925), (1, .int p367926)]) [0, 4, 5, 6] rfl ?_
                        exact ih40_368529 z368612 g368527 (gB_w bz368612 (by decide) (by decide)) (gB_w bg368527'' (by decide) (by decide)) (by first | exact fun h => absurd h (by omega) | exact fun h => (by rw [ez368612]; rw [cB_of he367976]; have q := x368528; rw [cB_of he367976] at q; exact nx_0 (q h) hz368534 (by omega) rfl)) x368529 (by omega)
                      · have r368613 : z368609.toInt < 0 := gj_nleL hc368610 (show Int32.toInt 0 = 0 by decide)
                        have bz368609' : gB z368609 (-1) (-1) := ⟨by omega, by omega⟩
                        have lhc368610 := gC_cmpS hz368609 (by omega)
                        refine G_iconst 1 dr_cX17_next_141 (by decide +kernel) ?_
                        refine G_goto 146 dr_cX17_next_142 (by decide +kernel) ?_
                        refine G_istore (L' := [(6, .int 1), (5, .int 1), (4, .int 1), (3, .int g368526), (2, .int g368527), (0, .ref q367925), (1, .int p367926)]) dr_cX17_next_146 (Nat.le_of_ble_eq_true rfl) rfl ?_
                        refine G_iload 2 dr_cX17_next_148 rfl ?_
                        refine G_if_ne 158 dr_cX17_next_150 (by decide +kernel) (fun _ => ?_) (fun hc => absurd hc (by decide))
                        refine G_iload 0 dr_cX17_next_158 rfl ?_
                        refine G_if_eq 165 dr_cX17_next_160 (by decide +kernel) (fun hc => absurd hc (by decide)) (fun _ => ?_)
                        refine G_iload_n 3 dr_cX17_next_163 rfl ?_
                        refine G_istore_n (L' := [(2, .int g368526), (6, .int 1), (5, .int 1), (4, .int 1), (3, .int g368526), (0, .ref q367925), (1, .int p367926)]) dr_cX17_next_164 (Nat.le_of_ble_eq_true rfl) rfl ?_
                        obtain ⟨z368614, hz368614⟩ : ∃ z : Int32, z = g368526 + Int32.ofInt 1 := ⟨_, rfl⟩
                        have ez368614 : z368614.toInt = g368526.toInt + 1 := gI_inc hz368614 (by decide) bg368526'' (by decide) (by decide)
                        have bz368614 : gB z368614 101 2000 := ⟨by omega, by omega⟩
                        refine G_iinc (L' := [(3, .int z368614), (2, .int g368526), (6, .int 1), (5, .int 1), (4, .int 1), (0, .ref q367925), (1, .int p367926)]) z368614 4 dr_cX17_next_165 rfl hz368614.symm (Nat.le_of_ble_eq_true rfl) rfl ?_
                        refine G_goto 40 dr_cX17_next_168 (by decide +kernel) ?_
                        refine G_lv (L' := [(3, .int z368614), (2, .int g368526), (0, .ref q367925), (1, .int p367926)]) [0, 1, 5, 6] rfl ?_
                        exact ih40_368529 z368614 g368526 (gB_w bz368614 (by decide) (by decide)) (gB_w bg368526'' (by decide) (by decide)) (by first | exact fun h => absurd h (by omega) | exact fun h => (by rw [ez368614]; rw [cB_of he367976]; have q := x368528; rw [cB_of he367976] at q; exact nx_0 (q h) hz368534 (by omega) rfl)) (fun _ => by rw [cB_of he367976]; exact sd_of hz368534 (by omega) (by omega) (by omega)) (by omega)
                · have r368615 : g368527.toInt < 0 := gj_nleL hc368537 (show Int32.toInt 0 = 0 by decide)
                  have bg368527' : gB g368527 (-1) (-1) := ⟨by omega, by omega⟩
                  refine G_iload_n 0 dr_cX17_next_63 rfl ?_
                  refine G_istore_n (L' := [(2, .int g368526), (3, .int g368526), (0, .ref q367925), (1, .int p367926)]) dr_cX17_next_64 (Nat.le_of_ble_eq_true rfl) rfl ?_
                  refine G_goto 165 dr_cX17_next_65 (by decide +kernel) ?_
                  obtain ⟨z368616, hz368616⟩ : ∃ z : Int32, z = g368526 + Int32.ofInt 1 := ⟨_, rfl⟩
                  have ez368616 : z368616.toInt = g368526.toInt + 1 := gI_inc hz368616 (by decide) bg368526' (by decide) (by decide)
                  have bz368616 : gB z368616 1 2000 := ⟨by omega, by omega⟩
                  refine G_iinc (L' := [(3, .int z368616), (2, .int g368526), (0, .ref q367925), (1, .int p367926)]) z368616 1 dr_cX17_next_165 rfl hz368616.symm (Nat.le_of_ble_eq_true rfl) rfl ?_
                  refine G_goto 40 dr_cX17_next_168 (by decide +kernel) ?_
                  exact ih40_368529 z368616 g368526 (gB_w bz368616 (by decide) (by decide)) (gB_w bg368526' (by decide) (by decide)) (by first | exact fun h => absurd h (by omega) | exact fun h => (by rw [ez368616]; rw [cB_of he367976]; have q := x368528; rw [cB_of he367976] at q; exact nx_0 (q h) hz368534 (by omega) rfl)) (fun _ => by rw [cB_of he367976]; exact sd_of hz368534 (by omega) (by omega) (by omega)) (by omega)
              · have r368617 : z368534.toInt = 0 := gj_eq hc368535 (show Int32.toInt 0 = 0 by decide)
                have bz368534' : gB z368534 0 0 := ⟨by omega, by omega⟩
                refine G_goto 165 dr_cX17_next_56 (by decide +kernel) ?_
                obtain ⟨z368618, hz368618⟩ : ∃ z : Int32, z = g368526 + Int32.ofInt 1 := ⟨_, rfl⟩
                have ez368618 : z368618.toInt = g368526.toInt + 1 := gI_inc hz368618 (by decide) bg368526' (by decide) (by decide)
                have bz368618 : gB z368618 1 2000 := ⟨by omega, by omega⟩
                refine G_iinc (L' := [(3, .int z368618), (2, .int g368527), (0, .ref q367925), (1, .int p367926)]) z368618 0 dr_cX17_next_165 rfl hz368618.symm (Nat.le_of_ble_eq_true rfl) rfl ?_
                refine G_goto 40 dr_cX17_next_168 (by decide +kernel) ?_
                exact ih40_368529 z368618 g368527 (gB_w bz368618 (by decide) (by decide)) bg368527 (by first | exact fun h => absurd h (by omega) | exact fun h => (by rw [ez368618]; rw [cB_of he367976]; have q := x368528; rw [cB_of he367976] at q; exact nx_0 (q h) hz368534 (by omega) rfl)) x368529 (by omega)
        exact hlp40_368529 (((2001 : Int) - 0).toNat + 1) 0 (-1) (gB_w (gBl (show Int32.toInt 0 = 0 by decide)) (by decide) (by decide)) (gB_w (gBl (show Int32.toInt (-1) = (-1) by decide)) (by decide) (by decide)) (fun _ m hm => absurd hm (by have qa : Int32.toInt 0 = 0 := (by decide); omega)) (fun h => absurd h (by decide)) (Nat.lt_succ_self _)
      · have r368619 : g368432.toInt < 2000 := gj_nleL hc368434 (show Int32.toInt 2000 = 2000 by decide)
        have bg368432' : gB g368432 0 1999 := ⟨by omega, by omega⟩
        refine G_aload_n 1 dr_cX17_next_9 rfl ?_
        refine Gp_get 18 hm367928 he367929 dr_cX17_next_10 (gk_X17 D I) (Nat.le_of_ble_eq_true rfl) wr_7_92 rfl ?_
        refine G_iload_n 0 dr_cX17_next_13 rfl ?_
        refine Gp_zald 3 hm367975 he367976 dr_cX17_next_14 rfl (gB_in bg368432' (by decide) (by decide)) (G_nam fun z368620 hz368620 => ?_)
        have bz368620 : gB z368620 0 1 := by rw [hz368620]; exact bf367977 _
        refine G_if_eq 30 dr_cX17_next_15 (by decide +kernel) (fun hc368621 => ?_) (fun hc368621 => ?_)
        · have r368622 : z368620.toInt = 0 := gj_eq hc368621 (show Int32.toInt 0 = 0 by decide)
          have bz368620' : gB z368620 0 0 := ⟨by omega, by omega⟩
          obtain ⟨z368623, hz368623⟩ : ∃ z : Int32, z = g368432 + Int32.ofInt 1 := ⟨_, rfl⟩
          have ez368623 : z368623.toInt = g368432.toInt + 1 := gI_inc hz368623 (by decide) bg368432' (by decide) (by decide)
          have bz368623 : gB z368623 1 2000 := ⟨by omega, by omega⟩
          refine G_iinc (L' := [(2, .int z368623), (0, .ref q367925), (1, .int p367926)]) z368623 0 dr_cX17_next_30 rfl hz368623.symm (Nat.le_of_ble_eq_true rfl) rfl ?_
          refine G_goto 2 dr_cX17_next_33 (by decide +kernel) ?_
          exact ih2_368432 z368623 (gB_w bz368623 (by decide) (by decide)) (by omega)
        · have r368624 : z368620.toInt ≠ 0 := gj_neq hc368621 (show Int32.toInt 0 = 0 by decide)
          have bz368620' : gB z368620 1 1 := ⟨by omega, by omega⟩
          refine G_aload_n 1 dr_cX17_next_18 rfl ?_
          refine Gp_get 16 hm367928 he367929 dr_cX17_next_19 (gk_X17 D I) (Nat.le_of_ble_eq_true rfl) wr_7_90 rfl ?_
          refine G_iload_n 0 dr_cX17_next_22 rfl ?_
          have hm368625 : (γ 9 16) ∈ P367923 := RS_m hT ht367959 (by decide)
          obtain ⟨f368627, he368626⟩ := show rk_19 I (F367924 (γ 9 16)) from RS_o hT ht367959
          refine Gp_iald 0 hm368625 he368626 dr_cX17_next_23 rfl (gB_in bg368432' (by decide) (by decide)) (G_nam fun z368628 hz368628 => ?_)
          have bz368628 : gB z368628 (-2147483648) 2147483647 := gB_any z368628
          refine G_iload_n 2 dr_cX17_next_24 rfl ?_
          refine G_icmp_ge 30 dr_cX17_next_25 (by decide +kernel) (fun hc368629 => ?_) (fun hc368629 => ?_)
          · have r368630 : p367926.toInt ≤ z368628.toInt := gC_le hc368629
            obtain ⟨z368631, hz368631⟩ : ∃ z : Int32, z = g368432 + Int32.ofInt 1 := ⟨_, rfl⟩
            have ez368631 : z368631.toInt = g368432.toInt + 1 := gI_inc hz368631 (by decide) bg368432' (by decide) (by decide)
            have bz368631 : gB z368631 1 2000 := ⟨by omega, by omega⟩
            refine G_iinc (L' := [(2, .int z368631), (0, .ref q367925), (1, .int p367926)]) z368631 0 dr_cX17_next_30 rfl hz368631.symm (Nat.le_of_ble_eq_true rfl) rfl ?_
            refine G_goto 2 dr_cX17_next_33 (by decide +kernel) ?_
            exact ih2_368432 z368631 (gB_w bz368631 (by decide) (by decide)) (by omega)
          · have r368632 : z368628.toInt < p367926.toInt := gC_nle hc368629
            have bz368628' : gB z368628 (-2147483648) 2147483646 := ⟨by omega, by omega⟩
            have bp367926' : gB p367926 (-2147483647) 2147483647 := ⟨by omega, by omega⟩
            refine G_iload_n 0 dr_cX17_next_28 rfl ?_
            exact G_iretA dr_cX17_next_29 rfl (Nat.le_of_ble_eq_true rfl) (Nat.le_of_ble_eq_true rfl) ⟨g368432, rfl, rfl, (Nat.le_of_ble_eq_true rfl), (Nat.le_of_ble_eq_true rfl), (gB_w bg368432' (by decide) (by decide)), (fun _ => by rw [cB_of he367976]; exact sd_of hz368620 (by omega) (by omega) (by omega)), (fun h => absurd h (by omega))⟩
  exact hlp2_368432 (((2001 : Int) - 0).toNat + 1) 0 (gB_w (gBl (show Int32.toInt 0 = 0 by decide)) (by decide) (by decide)) (Nat.lt_succ_self _)
abbrev ky_366861_SpillForgeModel_colours : gKey := (cX17_colours, 8, "SpillForgeModel", (some FieldType.int), [], "colours", fun _ _ => True)
def pt_366861_SpillForgeModel_colours (D : va_G) (I : FieldType → ClassId) (γ el : Nat → Nat → Nat) (P366857 : List Nat) (F366858 : Nat → va_E) (q366859 : Nat) (p366860 : Int32) : Option Value → va_W → Nat → Nat → Prop := fun r w dc ds => ∃ (F380784 : Nat → va_E) (o380783 : Int32), r = some (.int o380783) ∧ w = va_pl P366857 F380784 ∧ RS D I P366857 F380784 γ el ∧ rStr γ [] F366858 F380784 ∧ dc ≤ 0 ∧ ds ≤ 0 ∧ (gIp (o380783.toInt = 0) (∀ m : Nat, rSd (cB (F380784 (γ 9 3))) m → 0 ≤ (cB (F380784 (γ 9 17)) m).toInt)) ∧ (F380784 q366859 = F366858 q366859) ∧ (F380784 (γ 9 3) = F366858 (γ 9 3))
set_option maxRecDepth 100000 in
set_option maxHeartbeats 4000000 in
theorem ct_366861_SpillForgeModel_colours (l : Launch) (hl0 : l.stackTraces = false) (D : va_G) (I : FieldType → ClassId) (γ el : Nat → Nat → Nat) (P366857 : List Nat) (F366858 : Nat → va_E) (q366859 : Nat) (p366860 : Int32) (hT : RS D I P366857 F366858 γ el) (htq366859 : rKd γ q366859 10) (bp366860 : gB p366860 1 32) : CtA (gV D I) l yX17_colours cX17_colours 8 (some FieldType.int) 2 43 0 0 [.ref q366859, .int p366860] (va_pl P366857 F366858) (pt_366861_SpillForgeModel_colours D I γ el P366857 F366858 q366859 p366860) gNA := by
  refine CtA_of hl0 (by decide) (Nat.le_of_ble_eq_true rfl) ?_
  have hm366862 : q366859 ∈ P366857 := RS_m hT htq366859 (by decide)
  obtain ⟨q366864, q366865, p366866, p366867, p366868, p366869, p366870, p366871, p366872, p366873, p366874, p366875, p366876, p366877, p366878, p366879, p366880, he366863, hB366907, ht366881, ht366882, ht366883, ht366884, ht366885, ht366886, ht366887, ht366888, ht366889, ht366890, ht366891, ht366892, ht366893, ht366894, ht366895, ht366896, ht366897, ht366898, ht366899, ht366900, ht366901, ht366902, ht366903, ht366904, hB366908⟩ := show rk_10 γ (F366858 q366859) from RS_o hT htq366859
  have hm366909 : (γ 9 3) ∈ P366857 := RS_m hT ht366886 (by decide)
  obtain ⟨f366911, he366910, bf366911⟩ := show rk_14 I (F366858 (γ 9 3)) from RS_o hT ht366886
  have hm366912 : (γ 9 18) ∈ P366857 := RS_m hT ht366895 (by decide)
  obtain ⟨f366914, he366913, bf366914⟩ := show rk_15 I (F366858 (γ 9 18)) from RS_o hT ht366895
  have hm366915 : (γ 9 15) ∈ P366857 := RS_m hT ht366892 (by decide)
  obtain ⟨f366917, he366916, bf366917⟩ := show rk_18 I (F366858 (γ 9 15)) from RS_o hT ht366892
  have hm366918 : (γ 9 17) ∈ P366857 := RS_m hT ht366894 (by decide)
  obtain ⟨f366920, he366919, bf366920⟩ := show rk_20 I (F366858 (γ 9 17)) from RS_o hT ht366894
  refine G_iconst 0 dr_cX17_colours_0 (by decide +kernel) ?_
  refine G_istore_n (L' := [(2, .int 0), (0, .ref q366859), (1, .int p366860)]) dr_cX17_colours_1 (Nat.le_of_ble_eq_true rfl) rfl ?_
  have hlp2_378832 : ∀ (n2_378832 : Nat) (F378827 : Nat → va_E) (g378826 : Int32), gB g378826 0 2000 → RS D I P366857 F378827 γ el → rStr γ [] F366858 F378827 → (∀ m : Nat, (m : Int) < g378826.toInt → rSd (cB (F378827 (γ 9 3))) m → rSd (cB (F378827 (γ 9 18))) m) → (F378827 q366859 = F366858 q366859) → (F378827 (γ 9 3) = F366858 (γ 9 3)) → ((2001 : Int) - g378826.toInt).toNat < n2_378832 → G (gV D I) l (gRm 2 43 0 0) (gMA (gV D I) (pt_366861_SpillForgeModel_colours D I γ el P366857 F366858 q366859 p366860) gNA 0 0) ky_366861_SpillForgeModel_colours 2 [(2, .int g378826), (0, .ref q366859), (1, .int p366860)] [] (va_pl P366857 F378827) 0 0 := by
    intro n2_378832
    induction n2_378832 with
    | zero => intro F378827 g378826 bg378826 hT378828 hs378829 x378830 x378831 x378832 hm2_378832; exact absurd hm2_378832 (Nat.not_lt_zero _)
    | succ n2_378832 ih2_378832 =>
      intro F378827 g378826 bg378826 hT378828 hs378829 x378830 x378831 x378832 hm2_378832
      have hs378834 : rStr γ [] F366858 F378827 := fun b h0 hb hw => (hs378829 b h0 hb hw).trans ((rStr_rf (γ := γ) (W := []) (F := F366858)) b h0 hb hw).symm
      have hs378835 : rStr γ [] F366858 F378827 := rStr_tr (rStr_rf (γ := γ) (W := []) (F := F366858)) hs378834
      have hm378836 : q366859 ∈ P366857 := RS_m hT378828 htq366859 (by decide)
      obtain ⟨q378838, q378839, p378840, p378841, p378842, p378843, p378844, p378845, p378846, p378847, p378848, p378849, p378850, p378851, p378852, p378853, p378854, he378837, hB378881, ht378855, ht378856, ht378857, ht378858, ht378859, ht378860, ht378861, ht378862, ht378863, ht378864, ht378865, ht378866, ht378867, ht378868, ht378869, ht378870, ht378871, ht378872, ht378873, ht378874, ht378875, ht378876, ht378877, ht378878, hB378882⟩ := show rk_10 γ (F378827 q366859) from RS_o hT378828 htq366859
      have hm378883 : (γ 9 3) ∈ P366857 := RS_m hT378828 ht378860 (by decide)
      obtain ⟨f378885, he378884, bf378885⟩ := show rk_14 I (F378827 (γ 9 3)) from RS_o hT378828 ht378860
      have hm378886 : (γ 9 18) ∈ P366857 := RS_m hT378828 ht378869 (by decide)
      obtain ⟨f378888, he378887, bf378888⟩ := show rk_15 I (F378827 (γ 9 18)) from RS_o hT378828 ht378869
      have hm378889 : (γ 9 15) ∈ P366857 := RS_m hT378828 ht378866 (by decide)
      obtain ⟨f378891, he378890, bf378891⟩ := show rk_18 I (F378827 (γ 9 15)) from RS_o hT378828 ht378866
      have hm378892 : (γ 9 17) ∈ P366857 := RS_m hT378828 ht378868 (by decide)
      obtain ⟨f378894, he378893, bf378894⟩ := show rk_20 I (F378827 (γ 9 17)) from RS_o hT378828 ht378868
      have cq378895 := x378830
      rw [cB_of he378884, cB_of he378887] at cq378895
      refine G_iload_n 0 dr_cX17_colours_2 rfl ?_
      refine G_sipush 2000 dr_cX17_colours_3 (by decide +kernel) ?_
      refine G_icmp_ge 62 dr_cX17_colours_6 (by decide +kernel) (fun hc378896 => ?_) (fun hc378896 => ?_)
      · have r378897 : 2000 ≤ g378826.toInt := gj_leL hc378896 (show Int32.toInt 2000 = 2000 by decide)
        have bg378826' : gB g378826 2000 2000 := ⟨by omega, by omega⟩
        refine G_iconst 0 dr_cX17_colours_62 (by decide +kernel) ?_
        refine G_istore_n (L' := [(2, .int 0), (0, .ref q366859), (1, .int p366860)]) dr_cX17_colours_63 (Nat.le_of_ble_eq_true rfl) rfl ?_
        refine G_aload_n 1 dr_cX17_colours_64 rfl ?_
        refine G_iload_n 2 dr_cX17_colours_65 rfl ?_
        refine Gw_callV (As := [.int p366860]) (gV_ok D I) (ct_367927_SpillForgeModel_next l hl0 D I γ el P366857 F378827 q366859 p366860 hT378828 htq366859) dr_cX17_colours_66 ⟨wr_11_51, wr_1_14, wr_11_54, by decide, rfl, (Nat.le_of_ble_eq_true rfl), (Nat.le_of_ble_eq_true rfl)⟩ wr_11_53 wr_p_107 hm378836 he378837 rfl (show 0 + 0 ≤ 0 by first | omega | decide) (show 0 + 0 ≤ 0 by first | omega | decide) (Nat.le_of_ble_eq_true rfl) (fun r378901 w378902 dc378898 ds378899 hp378900 => ?_) (fun _ _ _ _ _ z => z.elim)
        obtain ⟨o378903, rfl, rfl, hdc, hds, bo378903, x378904, x378905⟩ := hp378900
        change G _ _ _ _ _ _ _ (.int o378903 :: _) _ _ _
        refine G_widen (cs' := 0) (sl' := 0) (by omega) (by omega) ?_
        refine G_istore_n (L' := [(3, .int o378903), (2, .int 0), (0, .ref q366859), (1, .int p366860)]) dr_cX17_colours_69 (Nat.le_of_ble_eq_true rfl) rfl ?_
        have hlp70_379795 : ∀ (n70_379795 : Nat) (F379787 : Nat → va_E) (g379785 : Int32) (g379786 : Int32), gB g379785 (-1) 1999 → gB g379786 0 2000 → RS D I P366857 F379787 γ el → rStr γ [] F366858 F379787 → (∀ m : Nat, rSd (cB (F379787 (γ 9 3))) m → rSd (cB (F379787 (γ 9 18))) m ∨ ∃ i : Nat, (i : Int) < g379786.toInt ∧ (cB (F379787 (γ 9 15)) i).toInt = m) → (rcn (cB (F379787 (γ 9 18))) 2000 + (g379786.toInt : Int).toNat ≤ 2000) → (gIp (0 ≤ g379785.toInt) (rSd (cB (F379787 (γ 9 18))) (g379785.toInt : Int).toNat)) → (gIp (g379785.toInt < 0) (∀ m : Nat, ¬ rSd (cB (F379787 (γ 9 18))) m)) → (F379787 q366859 = F366858 q366859) → (F379787 (γ 9 3) = F366858 (γ 9 3)) → (rcn (cB (F379787 (γ 9 18))) 2000) < n70_379795 → G (gV D I) l (gRm 2 43 0 0) (gMA (gV D I) (pt_366861_SpillForgeModel_colours D I γ el P366857 F366858 q366859 p366860) gNA 0 0) ky_366861_SpillForgeModel_colours 70 [(3, .int g379785), (2, .int g379786), (0, .ref q366859), (1, .int p366860)] [] (va_pl P366857 F379787) 0 0 := by
          intro n70_379795
          induction n70_379795 with
          | zero => intro F379787 g379785 g379786 bg379785 bg379786 hT379788 hs379789 x379790 x379791 x379792 x379793 x379794 x379795 hm70_379795; exact absurd hm70_379795 (Nat.not_lt_zero _)
          | succ n70_379795 ih70_379795 =>
            intro F379787 g379785 g379786 bg379785 bg379786 hT379788 hs379789 x379790 x379791 x379792 x379793 x379794 x379795 hm70_379795
            have hs379797 : rStr γ [] F378827 F379787 := fun b h0 hb hw => (hs379789 b h0 hb hw).trans (hs378829 b h0 hb hw).symm
            have hs379798 : rStr γ [] F366858 F379787 := rStr_tr hs378829 hs379797
            have hm379799 : q366859 ∈ P366857 := RS_m hT379788 htq366859 (by decide)
            obtain ⟨q379801, q379802, p379803, p379804, p379805, p379806, p379807, p379808, p379809, p379810, p379811, p379812, p379813, p379814, p379815, p379816, p379817, he379800, hB379844, ht379818, ht379819, ht379820, ht379821, ht379822, ht379823, ht379824, ht379825, ht379826, ht379827, ht379828, ht379829, ht379830, ht379831, ht379832, ht379833, ht379834, ht379835, ht379836, ht379837, ht379838, ht379839, ht379840, ht379841, hB379845⟩ := show rk_10 γ (F379787 q366859) from RS_o hT379788 htq366859
            have hm379846 : (γ 9 3) ∈ P366857 := RS_m hT379788 ht379823 (by decide)
            obtain ⟨f379848, he379847, bf379848⟩ := show rk_14 I (F379787 (γ 9 3)) from RS_o hT379788 ht379823
            have hm379849 : (γ 9 18) ∈ P366857 := RS_m hT379788 ht379832 (by decide)
            obtain ⟨f379851, he379850, bf379851⟩ := show rk_15 I (F379787 (γ 9 18)) from RS_o hT379788 ht379832
            have hm379852 : (γ 9 15) ∈ P366857 := RS_m hT379788 ht379829 (by decide)
            obtain ⟨f379854, he379853, bf379854⟩ := show rk_18 I (F379787 (γ 9 15)) from RS_o hT379788 ht379829
            have hm379855 : (γ 9 17) ∈ P366857 := RS_m hT379788 ht379831 (by decide)
            obtain ⟨f379857, he379856, bf379857⟩ := show rk_20 I (F379787 (γ 9 17)) from RS_o hT379788 ht379831
            have cq379858 := x379790
            rw [cB_of he379847, cB_of he379850, cB_of he379853] at cq379858
            have cq379859 := x379791
            rw [cB_of he379850] at cq379859
            have cq379860 := x379792
            rw [cB_of he379850] at cq379860
            have cq379861 := x379793
            rw [cB_of he379850] at cq379861
            refine G_iload_n 0 dr_cX17_colours_70 rfl ?_
            refine G_if_lt 142 dr_cX17_colours_71 (by decide +kernel) (fun hc379862 => ?_) (fun hc379862 => ?_)
            · have r379863 : g379785.toInt < 0 := gj_lt hc379862 (show Int32.toInt 0 = 0 by decide)
              have bg379785' : gB g379785 (-1) (-1) := ⟨by omega, by omega⟩
              refine G_iconst 0 dr_cX17_colours_142 (by decide +kernel) ?_
              refine G_istore_n (L' := [(3, .int 0), (2, .int g379786), (0, .ref q366859), (1, .int p366860)]) dr_cX17_colours_143 (Nat.le_of_ble_eq_true rfl) rfl ?_
              have hlp144_380130 : ∀ (n144_380130 : Nat) (F380124 : Nat → va_E) (g380122 : Int32) (g380123 : Int32), gB g380123 0 2000 → RS D I P366857 F380124 γ el → rStr γ [] F366858 F380124 → (gIp (g380122.toInt = 0) (∀ m : Nat, rSd (cB (F380124 (γ 9 3))) m → (∃ i : Nat, (i : Int) < g380123.toInt ∧ (cB (F380124 (γ 9 15)) i).toInt = m) ∨ 0 ≤ (cB (F380124 (γ 9 17)) m).toInt)) → (g380122.toInt + g380123.toInt ≤ 2000) → (F380124 q366859 = F366858 q366859) → (F380124 (γ 9 3) = F366858 (γ 9 3)) → ((g380123.toInt : Int) - (-1)).toNat < n144_380130 → G (gV D I) l (gRm 2 43 0 0) (gMA (gV D I) (pt_366861_SpillForgeModel_colours D I γ el P366857 F366858 q366859 p366860) gNA 0 0) ky_366861_SpillForgeModel_colours 144 [(3, .int g380122), (2, .int g380123), (0, .ref q366859), (1, .int p366860)] [] (va_pl P366857 F380124) 0 0 := by
                intro n144_380130
                induction n144_380130 with
                | zero => intro F380124 g380122 g380123 bg380123 hT380125 hs380126 x380127 x380128 x380129 x380130 hm144_380130; exact absurd hm144_380130 (Nat.not_lt_zero _)
                | succ n144_380130 ih144_380130 =>
                  intro F380124 g380122 g380123 bg380123 hT380125 hs380126 x380127 x380128 x380129 x380130 hm144_380130
                  have bg380122 := gB_any g380122
                  have hs380132 : rStr γ [] F379787 F380124 := fun b h0 hb hw => (hs380126 b h0 hb hw).trans (hs379789 b h0 hb hw).symm
                  have hs380133 : rStr γ [] F366858 F380124 := rStr_tr hs379789 hs380132
                  have hm380134 : q366859 ∈ P366857 := RS_m hT380125 htq366859 (by decide)
                  obtain ⟨q380136, q380137, p380138, p380139, p380140, p380141, p380142, p380143, p380144, p380145, p380146, p380147, p380148, p380149, p380150, p380151, p380152, he380135, hB380179, ht380153, ht380154, ht380155, ht380156, ht380157, ht380158, ht380159, ht380160, ht380161, ht380162, ht380163, ht380164, ht380165, ht380166, ht380167, ht380168, ht380169, ht380170, ht380171, ht380172, ht380173, ht380174, ht380175, ht380176, hB380180⟩ := show rk_10 γ (F380124 q366859) from RS_o hT380125 htq366859
                  have hm380181 : (γ 9 3) ∈ P366857 := RS_m hT380125 ht380158 (by decide)
                  obtain ⟨f380183, he380182, bf380183⟩ := show rk_14 I (F380124 (γ 9 3)) from RS_o hT380125 ht380158
                  have hm380184 : (γ 9 18) ∈ P366857 := RS_m hT380125 ht380167 (by decide)
                  obtain ⟨f380186, he380185, bf380186⟩ := show rk_15 I (F380124 (γ 9 18)) from RS_o hT380125 ht380167
                  have hm380187 : (γ 9 15) ∈ P366857 := RS_m hT380125 ht380164 (by decide)
                  obtain ⟨f380189, he380188, bf380189⟩ := show rk_18 I (F380124 (γ 9 15)) from RS_o hT380125 ht380164
                  have hm380190 : (γ 9 17) ∈ P366857 := RS_m hT380125 ht380166 (by decide)
                  obtain ⟨f380192, he380191, bf380192⟩ := show rk_20 I (F380124 (γ 9 17)) from RS_o hT380125 ht380166
                  have cq380193 := x380127
                  rw [cB_of he380182, cB_of he380188, cB_of he380191] at cq380193
                  refine G_iload_n 1 dr_cX17_colours_144 rfl ?_
                  refine G_if_le 253 dr_cX17_colours_145 (by decide +kernel) (fun hc380194 => ?_) (fun hc380194 => ?_)
                  · have r380195 : g380123.toInt ≤ 0 := gj_le hc380194 (show Int32.toInt 0 = 0 by decide)
                    have bg380123' : gB g380123 0 0 := ⟨by omega, by omega⟩
                    refine G_iload_n 0 dr_cX17_colours_253 rfl ?_
                    exact G_iretA dr_cX17_colours_254 rfl (Nat.le_of_ble_eq_true rfl) (Nat.le_of_ble_eq_true rfl) ⟨F380124, g380122, rfl, rfl, hT380125, hs380126, (Nat.le_of_ble_eq_true rfl), (Nat.le_of_ble_eq_true rfl), (fun h0 m s => by rw [cB_of he380191]; rw [cB_of he380182] at s; exact (cq380193 h0 m s).resolve_left (fun ⟨i, hi, _⟩ => absurd hi (by omega))), x380129, x380130⟩
                  · have r380196 : 0 < g380123.toInt := gj_nle hc380194 (show Int32.toInt 0 = 0 by decide)
                    have bg380123' : gB g380123 1 2000 := ⟨by omega, by omega⟩
                    obtain ⟨z380197, hz380197⟩ : ∃ z : Int32, z = g380123 + Int32.ofInt (-1) := ⟨_, rfl⟩
                    have ez380197 : z380197.toInt = g380123.toInt + (-1) := gI_inc hz380197 (by decide) bg380123' (by decide) (by decide)
                    have bz380197 : gB z380197 0 1999 := ⟨by omega, by omega⟩
                    refine G_iinc (L' := [(2, .int z380197), (3, .int g380122), (0, .ref q366859), (1, .int p366860)]) z380197 1 dr_cX17_colours_148 rfl hz380197.symm (Nat.le_of_ble_eq_true rfl) rfl ?_
                    refine G_aload_n 2 dr_cX17_colours_151 rfl ?_
                    refine Gp_get 15 hm380134 he380135 dr_cX17_colours_152 (gk_X17 D I) (Nat.le_of_ble_eq_true rfl) wr_7_89 rfl ?_
                    refine G_iload_n 0 dr_cX17_colours_155 rfl ?_
                    refine Gp_iald 0 hm380187 he380188 dr_cX17_colours_156 rfl (gB_in bz380197 (by decide) (by decide)) (G_nam fun z380198 hz380198 => ?_)
                    have bz380198 : gB z380198 0 1999 := by rw [hz380198]; exact bf380189 _
                    refine G_istore (L' := [(4, .int z380198), (2, .int z380197), (3, .int g380122), (0, .ref q366859), (1, .int p366860)]) dr_cX17_colours_157 (Nat.le_of_ble_eq_true rfl) rfl ?_
                    refine G_lconst 0 dr_cX17_colours_159 rfl ?_
                    refine G_lstore (L' := [(5, .long 0), (4, .int z380198), (2, .int z380197), (3, .int g380122), (0, .ref q366859), (1, .int p366860)]) dr_cX17_colours_160 (Nat.le_of_ble_eq_true rfl) rfl ?_
                    refine G_iconst 0 dr_cX17_colours_162 (by decide +kernel) ?_
                    refine G_istore (L' := [(7, .int 0), (5, .long 0), (4, .int z380198), (2, .int z380197), (3, .int g380122), (0, .ref q366859), (1, .int p366860)]) dr_cX17_colours_163 (Nat.le_of_ble_eq_true rfl) rfl ?_
                    have hlp165_380293 : ∀ (n165_380293 : Nat) (g380292 : Int32) (gl380293 : Int64), gB g380292 0 2000 → ((2001 : Int) - g380292.toInt).toNat < n165_380293 → G (gV D I) l (gRm 2 43 0 0) (gMA (gV D I) (pt_366861_SpillForgeModel_colours D I γ el P366857 F366858 q366859 p366860) gNA 0 0) ky_366861_SpillForgeModel_colours 165 [(7, .int g380292), (5, .long gl380293), (4, .int z380198), (2, .int z380197), (3, .int g380122), (0, .ref q366859), (1, .int p366860)] [] (va_pl P366857 F380124) 0 0 := by
                      intro n165_380293
                      induction n165_380293 with
                      | zero => intro g380292 gl380293 bg380292 hm165_380293; exact absurd hm165_380293 (Nat.not_lt_zero _)
                      | succ n165_380293 ih165_380293 =>
                        intro g380292 gl380293 bg380292 hm165_380293
                        refine G_iload 0 dr_cX17_colours_165 rfl ?_
                        refine G_sipush 2000 dr_cX17_colours_167 (by decide +kernel) ?_
                        refine G_icmp_ge 218 dr_cX17_colours_170 (by decide +kernel) (fun hc380295 => ?_) (fun hc380295 => ?_)
                        · have r380296 : 2000 ≤ g380292.toInt := gj_leL hc380295 (show Int32.toInt 2000 = 2000 by decide)
                          have bg380292' : gB g380292 2000 2000 := ⟨by omega, by omega⟩
                          refine G_lload 1 dr_cX17_colours_218 rfl ?_
                          refine G_ldc2 (-1) dr_cX17_colours_220 wr_10_188 ?_
                          refine G_lxor dr_cX17_colours_223 (G_namL fun u380297 hu380297 => ?_)
                          refine Gw_callS (As := [.long u380297]) (gV_ok D I) (cp_2103_Long_numberOfTrailingZeros l hl0 D I P366857 F380124 u380297 ) dr_cX17_colours_224 ⟨wr_11_1, wr_1_31, wr_11_3, by decide, rfl, (Nat.le_of_ble_eq_true rfl), (Nat.le_of_ble_eq_true rfl)⟩ wr_11_2 (show 0 + 0 ≤ 0 by first | omega | decide) (show 0 + 0 ≤ 0 by first | omega | decide) (Nat.le_of_ble_eq_true rfl) (fun r380301 w380302 dc380298 ds380299 hp380300 => ?_) (fun _ _ _ _ _ z => z.elim)
                          rcases hp380300 with ⟨o380303, z380304, rfl, rfl, hdc, hds, r380305, r380306, r380307⟩ | ⟨z380308, z380309, rfl, rfl, hdc, hds, r380310, r380311, r380312⟩
                          · change G _ _ _ _ _ _ _ (.int o380303 :: _) _ _ _
                            refine G_widen (cs' := 0) (sl' := 0) (by omega) (by omega) ?_
                            refine G_istore (L' := [(7, .int o380303), (5, .long gl380293), (4, .int z380198), (2, .int z380197), (3, .int g380122), (0, .ref q366859), (1, .int p366860)]) dr_cX17_colours_227 (Nat.le_of_ble_eq_true rfl) rfl ?_
                            refine G_iload 0 dr_cX17_colours_229 rfl ?_
                            refine G_iload_n 6 dr_cX17_colours_231 rfl ?_
                            refine G_icmp_ge 247 dr_cX17_colours_232 (by decide +kernel) (fun hc380314 => ?_) (fun hc380314 => ?_)
                            · have r380315 : p366860.toInt ≤ o380303.toInt := gC_le hc380314
                              have r380306' : gB o380303 1 2147483647 := ⟨by omega, by omega⟩
                              obtain ⟨z380316, hz380316⟩ : ∃ z : Int32, z = g380122 + Int32.ofInt 1 := ⟨_, rfl⟩
                              have bz380316 : gB z380316 (-2147483648) 2147483647 := gB_any z380316
                              refine G_iinc (L' := [(3, .int z380316), (7, .int o380303), (5, .long gl380293), (4, .int z380198), (2, .int z380197), (0, .ref q366859), (1, .int p366860)]) z380316 4 dr_cX17_colours_247 rfl hz380316.symm (Nat.le_of_ble_eq_true rfl) rfl ?_
                              refine G_goto 144 dr_cX17_colours_250 (by decide +kernel) ?_
                              refine G_lv (L' := [(3, .int z380316), (2, .int z380197), (0, .ref q366859), (1, .int p366860)]) [0, 4, 5, 6] rfl ?_
                              exact ih144_380130 F380124 z380316 z380197 (gB_w bz380197 (by decide) (by decide)) hT380125 hs380126 (fun h0 => absurd h0 (by omega)) (by omega) x380129 x380130 (by omega)
                            · have r380317 : o380303.toInt < p366860.toInt := gC_nle hc380314
                              have r380306' : gB o380303 (-2147483648) 31 := ⟨by omega, by omega⟩
                              refine G_aload_n 5 dr_cX17_colours_235 rfl ?_
                              refine Gp_get 17 hm380134 he380135 dr_cX17_colours_236 (gk_X17 D I) (Nat.le_of_ble_eq_true rfl) wr_7_91 rfl ?_
                              refine G_iload 2 dr_cX17_colours_239 rfl ?_
                              refine G_iload 0 dr_cX17_colours_241 rfl ?_
                              refine Gp_iast 0 hm380190 he380191 dr_cX17_colours_243 rfl (gB_in bz380198 (by decide) (by decide)) (fun F380318 e380319 n380320 => ?_)
                              obtain ⟨f380321, hf380321⟩ : ∃ z, z = upd f380192 z380198.toNatClampNeg o380303 := ⟨_, rfl⟩
                              rw [← hf380321] at e380319
                              have he380322 : F380318 q366859 = .inr (22, [.ref (γ 9 0), .ref (γ 9 1), .ref (γ 9 2), .ref (γ 9 3), .ref (γ 9 4), .ref (γ 9 5), .ref (γ 9 6), .ref (γ 9 7), .ref (γ 9 8), .int p380138, .int p380139, .int p380140, .int p380141, .int p380142, .int p380143, .ref (γ 9 15), .ref (γ 9 16), .ref (γ 9 17), .ref (γ 9 18), .ref (γ 9 19), .ref (γ 9 20), .ref (γ 9 21), .ref (γ 9 22), .int p380144, .int p380145, .int p380146, .int p380147, .int p380148, .ref q380136, .ref (γ 9 29), .int p380149, .ref (γ 9 31), .int p380150, .int p380151, .int p380152, .ref q380137]) := (n380320 q366859 (rn_oa he380135 he380191)).trans he380135
                              have he380323 : F380318 (γ 9 3) = .inl (I .boolean, 2000, .inl f380183) := (n380320 (γ 9 3) (rn_ty ht380158 ht380166 (by decide))).trans he380182
                              have he380324 : F380318 (γ 9 18) = .inl (I .boolean, 2000, .inl f380186) := (n380320 (γ 9 18) (rn_ty ht380167 ht380166 (by decide))).trans he380185
                              have he380325 : F380318 (γ 9 15) = .inl (I .int, 2000, .inl f380189) := (n380320 (γ 9 15) (rn_ty ht380164 ht380166 (by decide))).trans he380188
                              have he380326 : F380318 (γ 9 17) = .inl (I .int, 2000, .inl f380321) := e380319
                              have hs380327 : rStr γ [] F366858 F380318 := rStr_put hs380126 n380320 ht380166 (by decide)
                              have kp380328 : F380318 q366859 = F366858 q366859 := (n380320 q366859 (rn_ty htq366859 ht380166 (by decide))).trans x380129
                              have kp380329 : F380318 (γ 9 3) = F366858 (γ 9 3) := (n380320 (γ 9 3) (rn_ty ht380158 ht380166 (by decide))).trans x380130
                              have bf380321 : gF f380321 (-2147483648) 31 := gF_upd hf380321 (gF_w bf380192 (by decide) (by decide)) r380306'
                              refine G_goto 250 dr_cX17_colours_244 (by decide +kernel) ?_
                              refine G_goto 144 dr_cX17_colours_250 (by decide +kernel) ?_
                              have hT380330 : RS D I P366857 F380318 γ el := RS_set hT380125 n380320 ht380166 (by decide) ⟨f380321, he380326, (gF_w bf380321 (by decide) (by decide))⟩
                              refine G_lv (L' := [(3, .int g380122), (2, .int z380197), (0, .ref q366859), (1, .int p366860)]) [4, 3, 5, 6] rfl ?_
                              exact ih144_380130 F380318 g380122 z380197 (gB_w bz380197 (by decide) (by decide)) hT380330 hs380327 (by rw [cB_of he380323, cB_of he380325, cB_of he380326]; exact fun h0 => co_u hz380198 hf380321 (by omega) (by omega) (by omega) (cq380193 h0)) (by omega) kp380328 kp380329 (by omega)
                          · change G _ _ _ _ _ _ _ (.int z380308 :: _) _ _ _
                            refine G_widen (cs' := 0) (sl' := 0) (by omega) (by omega) ?_
                            refine G_istore (L' := [(7, .int z380308), (5, .long gl380293), (4, .int z380198), (2, .int z380197), (3, .int g380122), (0, .ref q366859), (1, .int p366860)]) dr_cX17_colours_227 (Nat.le_of_ble_eq_true rfl) rfl ?_
                            refine G_iload 0 dr_cX17_colours_229 rfl ?_
                            refine G_iload_n 6 dr_cX17_colours_231 rfl ?_
                            refine G_icmp_ge 247 dr_cX17_colours_232 (by decide +kernel) (fun hc380331 => ?_) (fun hc380331 => ?_)
                            · have r380332 : p366860.toInt ≤ z380308.toInt := gC_le hc380331
                              have r380311' : gB z380308 1 2147483647 := ⟨by omega, by omega⟩
                              obtain ⟨z380333, hz380333⟩ : ∃ z : Int32, z = g380122 + Int32.ofInt 1 := ⟨_, rfl⟩
                              have bz380333 : gB z380333 (-2147483648) 2147483647 := gB_any z380333
                              refine G_iinc (L' := [(3, .int z380333), (7, .int z380308), (5, .long gl380293), (4, .int z380198), (2, .int z380197), (0, .ref q366859), (1, .int p366860)]) z380333 4 dr_cX17_colours_247 rfl hz380333.symm (Nat.le_of_ble_eq_true rfl) rfl ?_
                              refine G_goto 144 dr_cX17_colours_250 (by decide +kernel) ?_
                              refine G_lv (L' := [(3, .int z380333), (2, .int z380197), (0, .ref q366859), (1, .int p366860)]) [0, 4, 5, 6] rfl ?_
                              exact ih144_380130 F380124 z380333 z380197 (gB_w bz380197 (by decide) (by decide)) hT380125 hs380126 (fun h0 => absurd h0 (by omega)) (by omega) x380129 x380130 (by omega)
                            · have r380334 : z380308.toInt < p366860.toInt := gC_nle hc380331
                              have r380311' : gB z380308 (-2147483648) 31 := ⟨by omega, by omega⟩
                              refine G_aload_n 5 dr_cX17_colours_235 rfl ?_
                              refine Gp_get 17 hm380134 he380135 dr_cX17_colours_236 (gk_X17 D I) (Nat.le_of_ble_eq_true rfl) wr_7_91 rfl ?_
                              refine G_iload 2 dr_cX17_colours_239 rfl ?_
                              refine G_iload 0 dr_cX17_colours_241 rfl ?_
                              refine Gp_iast 0 hm380190 he380191 dr_cX17_colours_243 rfl (gB_in bz380198 (by decide) (by decide)) (fun F380335 e380336 n380337 => ?_)
                              obtain ⟨f380338, hf380338⟩ : ∃ z, z = upd f380192 z380198.toNatClampNeg z380308 := ⟨_, rfl⟩
                              rw [← hf380338] at e380336
                              have he380339 : F380335 q366859 = .inr (22, [.ref (γ 9 0), .ref (γ 9 1), .ref (γ 9 2), .ref (γ 9 3), .ref (γ 9 4), .ref (γ 9 5), .ref (γ 9 6), .ref (γ 9 7), .ref (γ 9 8), .int p380138, .int p380139, .int p380140, .int p380141, .int p380142, .int p380143, .ref (γ 9 15), .ref (γ 9 16), .ref (γ 9 17), .ref (γ 9 18), .ref (γ 9 19), .ref (γ 9 20), .ref (γ 9 21), .ref (γ 9 22), .int p380144, .int p380145, .int p380146, .int p380147, .int p380148, .ref q380136, .ref (γ 9 29), .int p380149, .ref (γ 9 31), .int p380150, .int p380151, .int p380152, .ref q380137]) := (n380337 q366859 (rn_oa he380135 he380191)).trans he380135
                              have he380340 : F380335 (γ 9 3) = .inl (I .boolean, 2000, .inl f380183) := (n380337 (γ 9 3) (rn_ty ht380158 ht380166 (by decide))).trans he380182
                              have he380341 : F380335 (γ 9 18) = .inl (I .boolean, 2000, .inl f380186) := (n380337 (γ 9 18) (rn_ty ht380167 ht380166 (by decide))).trans he380185
                              have he380342 : F380335 (γ 9 15) = .inl (I .int, 2000, .inl f380189) := (n380337 (γ 9 15) (rn_ty ht380164 ht380166 (by decide))).trans he380188
                              have he380343 : F380335 (γ 9 17) = .inl (I .int, 2000, .inl f380338) := e380336
                              have hs380344 : rStr γ [] F366858 F380335 := rStr_put hs380126 n380337 ht380166 (by decide)
                              have kp380345 : F380335 q366859 = F366858 q366859 := (n380337 q366859 (rn_ty htq366859 ht380166 (by decide))).trans x380129
                              have kp380346 : F380335 (γ 9 3) = F366858 (γ 9 3) := (n380337 (γ 9 3) (rn_ty ht380158 ht380166 (by decide))).trans x380130
                              have bf380338 : gF f380338 (-2147483648) 31 := gF_upd hf380338 (gF_w bf380192 (by decide) (by decide)) r380311'
                              refine G_goto 250 dr_cX17_colours_244 (by decide +kernel) ?_
                              refine G_goto 144 dr_cX17_colours_250 (by decide +kernel) ?_
                              have hT380347 : RS D I P366857 F380335 γ el := RS_set hT380125 n380337 ht380166 (by decide) ⟨f380338, he380343, (gF_w bf380338 (by decide) (by decide))⟩
                              refine G_lv (L' := [(3, .int g380122), (2, .int z380197), (0, .ref q366859), (1, .int p366860)]) [4, 3, 5, 6] rfl ?_
                              exact ih144_380130 F380335 g380122 z380197 (gB_w bz380197 (by decide) (by decide)) hT380347 hs380344 (by rw [cB_of he380340, cB_of he380342, cB_of he380343]; exact fun h0 => co_u hz380198 hf380338 (by omega) (by omega) (by omega) (cq380193 h0)) (by omega) kp380345 kp380346 (by omega)
                        · have r380348 : g380292.toInt < 2000 := gj_nleL hc380295 (show Int32.toInt 2000 = 2000 by decide)
                          have bg380292' : gB g380292 0 1999 := ⟨by omega, by omega⟩
                          refine G_aload_n 5 dr_cX17_colours_173 rfl ?_
                          refine Gp_get 17 hm380134 he380135 dr_cX17_colours_174 (gk_X17 D I) (Nat.le_of_ble_eq_true rfl) wr_7_91 rfl ?_
                          refine G_iload 0 dr_cX17_colours_177 rfl ?_
                          refine Gp_iald 0 hm380190 he380191 dr_cX17_colours_179 rfl (gB_in bg380292' (by decide) (by decide)) (G_nam fun z380349 hz380349 => ?_)
                          have bz380349 : gB z380349 (-1) 31 := by rw [hz380349]; exact bf380192 _
                          refine G_if_lt 212 dr_cX17_colours_180 (by decide +kernel) (fun hc380350 => ?_) (fun hc380350 => ?_)
                          · have r380351 : z380349.toInt < 0 := gj_lt hc380350 (show Int32.toInt 0 = 0 by decide)
                            have bz380349' : gB z380349 (-1) (-1) := ⟨by omega, by omega⟩
                            obtain ⟨z380352, hz380352⟩ : ∃ z : Int32, z = g380292 + Int32.ofInt 1 := ⟨_, rfl⟩
                            have ez380352 : z380352.toInt = g380292.toInt + 1 := gI_inc hz380352 (by decide) bg380292' (by decide) (by decide)
                            have bz380352 : gB z380352 1 2000 := ⟨by omega, by omega⟩
                            refine G_iinc (L' := [(7, .int z380352), (5, .long gl380293), (4, .int z380198), (2, .int z380197), (3, .int g380122), (0, .ref q366859), (1, .int p366860)]) z380352 0 dr_cX17_colours_212 rfl hz380352.symm (Nat.le_of_ble_eq_true rfl) rfl ?_
                            refine G_goto 165 dr_cX17_colours_215 (by decide +kernel) ?_
                            exact ih165_380293 z380352 gl380293 (gB_w bz380352 (by decide) (by decide)) (by omega)
                          · have r380353 : 0 ≤ z380349.toInt := gj_nlt hc380350 (show Int32.toInt 0 = 0 by decide)
                            have bz380349' : gB z380349 0 31 := ⟨by omega, by omega⟩
                            refine G_aload_n 5 dr_cX17_colours_183 rfl ?_
                            refine Gp_get 1 hm380134 he380135 dr_cX17_colours_184 (gk_X17 D I) (Nat.le_of_ble_eq_true rfl) wr_7_75 rfl ?_
                            refine G_iload 2 dr_cX17_colours_187 rfl ?_
                            have hm380354 : (γ 9 1) ∈ P366857 := RS_m hT380125 ht380156 (by decide)
                            obtain ⟨f380356, he380355, hg380357⟩ := show rk_13 I γ (F380124 (γ 9 1)) from RS_o hT380125 ht380156
                            obtain ⟨q380358, hx380360⟩ : ∃ x, x = γ 11 z380198.toInt.toNat := ⟨_, rfl⟩
                            have ht380359 : rKd γ q380358 36 := by rw [hx380360]; exact (hg380357 _ (show z380198.toInt.toNat < 2000 by omega)).2.1
                            refine Gp_aald 5 hm380354 he380355 dr_cX17_colours_189 rfl rfl (gB_in bz380198 (by decide) (by decide)) ?_
                            rw [show f380356 z380198.toNatClampNeg = some q380358 from (hg380357 _ (show z380198.toInt.toNat < 2000 by omega)).1.trans (by rw [hx380360])]
                            change G _ _ _ _ _ _ _ (.ref q380358 :: _) _ _ _
                            refine G_iload 0 dr_cX17_colours_190 rfl ?_
                            have hm380361 : q380358 ∈ P366857 := RS_m hT380125 ht380359 (by decide)
                            obtain ⟨f380363, he380362, wf380363⟩ := show rk_36 I (F380124 q380358) from RS_o hT380125 ht380359
                            refine Gw_callS (As := [.ref q380358, .int g380292]) (gV_ok D I) (cp_1838_SpillForgeModel_has l hl0 D I P366857 F380124 q380358 g380292 f380363 hm380361 he380362 (gB_w bg380292' (by decide) (by decide))) dr_cX17_colours_192 ⟨wr_10_203, wr_1_14, wr_10_205, by decide, rfl, (Nat.le_of_ble_eq_true rfl), (Nat.le_of_ble_eq_true rfl)⟩ wr_10_204 (show 0 + 0 ≤ 0 by first | omega | decide) (show 0 + 0 ≤ 0 by first | omega | decide) (Nat.le_of_ble_eq_true rfl) (fun r380367 w380368 dc380364 ds380365 hp380366 => ?_) (fun _ _ _ _ _ z => z.elim)
                            rcases hp380366 with ⟨z380369, z380370, rfl, rfl, hdc, hds, r380371, r380372, r380373, r380374⟩ | ⟨z380375, z380376, rfl, rfl, hdc, hds, r380377, r380378, r380379, r380380⟩
                            · change G _ _ _ _ _ _ _ (.int 0 :: _) _ _ _
                              refine G_widen (cs' := 0) (sl' := 0) (by omega) (by omega) ?_
                              refine G_if_eq 212 dr_cX17_colours_195 (by decide +kernel) (fun _ => ?_) (fun hc => absurd hc (by decide))
                              obtain ⟨z380382, hz380382⟩ : ∃ z : Int32, z = g380292 + Int32.ofInt 1 := ⟨_, rfl⟩
                              have ez380382 : z380382.toInt = g380292.toInt + 1 := gI_inc hz380382 (by decide) bg380292' (by decide) (by decide)
                              have bz380382 : gB z380382 1 2000 := ⟨by omega, by omega⟩
                              refine G_iinc (L' := [(7, .int z380382), (5, .long gl380293), (4, .int z380198), (2, .int z380197), (3, .int g380122), (0, .ref q366859), (1, .int p366860)]) z380382 0 dr_cX17_colours_212 rfl hz380382.symm (Nat.le_of_ble_eq_true rfl) rfl ?_
                              refine G_goto 165 dr_cX17_colours_215 (by decide +kernel) ?_
                              exact ih165_380293 z380382 gl380293 (gB_w bz380382 (by decide) (by decide)) (by omega)
                            · change G _ _ _ _ _ _ _ (.int 1 :: _) _ _ _
                              refine G_widen (cs' := 0) (sl' := 0) (by omega) (by omega) ?_
                              refine G_if_eq 212 dr_cX17_colours_195 (by decide +kernel) (fun hc => absurd hc (by decide)) (fun _ => ?_)
                              refine G_lload 1 dr_cX17_colours_198 rfl ?_
                              refine G_lconst 1 dr_cX17_colours_200 rfl ?_
                              refine G_aload_n 5 dr_cX17_colours_201 rfl ?_
                              refine Gp_get 17 hm380134 he380135 dr_cX17_colours_202 (gk_X17 D I) (Nat.le_of_ble_eq_true rfl) wr_7_91 rfl ?_
                              refine G_iload 0 dr_cX17_colours_205 rfl ?_
                              refine Gp_iald 0 hm380190 he380191 dr_cX17_colours_207 rfl (gB_in bg380292' (by decide) (by decide)) (G_eqi (y := z380349) hz380349.symm ?_)
                              refine G_lshl dr_cX17_colours_208 (G_namL fun u380383 hu380383 => ?_)
                              have qu380383 : lb_Q u380383 (z380349.toInt % 64 + 1) := lb_Qshl hu380383 (by omega)
                              refine G_lor dr_cX17_colours_209 (G_namL fun u380384 hu380384 => ?_)
                              refine G_lstore (L' := [(5, .long u380384), (7, .int g380292), (4, .int z380198), (2, .int z380197), (3, .int g380122), (0, .ref q366859), (1, .int p366860)]) dr_cX17_colours_210 (Nat.le_of_ble_eq_true rfl) rfl ?_
                              obtain ⟨z380385, hz380385⟩ : ∃ z : Int32, z = g380292 + Int32.ofInt 1 := ⟨_, rfl⟩
                              have ez380385 : z380385.toInt = g380292.toInt + 1 := gI_inc hz380385 (by decide) bg380292' (by decide) (by decide)
                              have bz380385 : gB z380385 1 2000 := ⟨by omega, by omega⟩
                              refine G_iinc (L' := [(7, .int z380385), (5, .long u380384), (4, .int z380198), (2, .int z380197), (3, .int g380122), (0, .ref q366859), (1, .int p366860)]) z380385 1 dr_cX17_colours_212 rfl hz380385.symm (Nat.le_of_ble_eq_true rfl) rfl ?_
                              refine G_goto 165 dr_cX17_colours_215 (by decide +kernel) ?_
                              exact ih165_380293 z380385 u380384 (gB_w bz380385 (by decide) (by decide)) (by omega)
                    exact hlp165_380293 (((2001 : Int) - 0).toNat + 1) 0 0 (gB_w (gBl (show Int32.toInt 0 = 0 by decide)) (by decide) (by decide)) (Nat.lt_succ_self _)
              exact hlp144_380130 (((g379786.toInt : Int) - (-1)).toNat + 1) F379787 0 g379786 bg379786 hT379788 hs379789 (by rw [cB_of he379847, cB_of he379853, cB_of he379856]; exact fun _ m s => Or.inl ((cq379858 m s).resolve_left (cq379861 (by omega) m))) (by have qa0 : Int32.toInt 0 = 0 := (by decide); omega) x379794 x379795 (Nat.lt_succ_self _)
            · have r380386 : 0 ≤ g379785.toInt := gj_nlt hc379862 (show Int32.toInt 0 = 0 by decide)
              have bg379785' : gB g379785 0 1999 := ⟨by omega, by omega⟩
              have r380387 := rcn_pos (cq379860 (by omega))
              have r380388 := cq379859
              have bg379786' : gB g379786 0 1999 := ⟨by omega, by omega⟩
              refine G_aload_n 2 dr_cX17_colours_74 rfl ?_
              refine Gp_get 15 hm379799 he379800 dr_cX17_colours_75 (gk_X17 D I) (Nat.le_of_ble_eq_true rfl) wr_7_89 rfl ?_
              refine G_iload_n 1 dr_cX17_colours_78 rfl ?_
              refine G_iload_n 0 dr_cX17_colours_79 rfl ?_
              refine Gp_iast 0 hm379852 he379853 dr_cX17_colours_80 rfl (gB_in bg379786' (by decide) (by decide)) (fun F380389 e380390 n380391 => ?_)
              obtain ⟨f380392, hf380392⟩ : ∃ z, z = upd f379854 g379786.toNatClampNeg g379785 := ⟨_, rfl⟩
              rw [← hf380392] at e380390
              have he380393 : F380389 q366859 = .inr (22, [.ref (γ 9 0), .ref (γ 9 1), .ref (γ 9 2), .ref (γ 9 3), .ref (γ 9 4), .ref (γ 9 5), .ref (γ 9 6), .ref (γ 9 7), .ref (γ 9 8), .int p379803, .int p379804, .int p379805, .int p379806, .int p379807, .int p379808, .ref (γ 9 15), .ref (γ 9 16), .ref (γ 9 17), .ref (γ 9 18), .ref (γ 9 19), .ref (γ 9 20), .ref (γ 9 21), .ref (γ 9 22), .int p379809, .int p379810, .int p379811, .int p379812, .int p379813, .ref q379801, .ref (γ 9 29), .int p379814, .ref (γ 9 31), .int p379815, .int p379816, .int p379817, .ref q379802]) := (n380391 q366859 (rn_oa he379800 he379853)).trans he379800
              have he380394 : F380389 (γ 9 3) = .inl (I .boolean, 2000, .inl f379848) := (n380391 (γ 9 3) (rn_ty ht379823 ht379829 (by decide))).trans he379847
              have he380395 : F380389 (γ 9 18) = .inl (I .boolean, 2000, .inl f379851) := (n380391 (γ 9 18) (rn_ty ht379832 ht379829 (by decide))).trans he379850
              have he380396 : F380389 (γ 9 17) = .inl (I .int, 2000, .inl f379857) := (n380391 (γ 9 17) (rn_ty ht379831 ht379829 (by decide))).trans he379856
              have he380397 : F380389 (γ 9 15) = .inl (I .int, 2000, .inl f380392) := e380390
              have hs380398 : rStr γ [] F366858 F380389 := rStr_put hs379789 n380391 ht379829 (by decide)
              have kp380399 : F380389 q366859 = F366858 q366859 := (n380391 q366859 (rn_ty htq366859 ht379829 (by decide))).trans x379794
              have kp380400 : F380389 (γ 9 3) = F366858 (γ 9 3) := (n380391 (γ 9 3) (rn_ty ht379823 ht379829 (by decide))).trans x379795
              have bf380392 : gF f380392 0 1999 := gF_upd hf380392 bf379854 bg379785'
              obtain ⟨z380401, hz380401⟩ : ∃ z : Int32, z = g379786 + Int32.ofInt 1 := ⟨_, rfl⟩
              have ez380401 : z380401.toInt = g379786.toInt + 1 := gI_inc hz380401 (by decide) bg379786' (by decide) (by decide)
              have bz380401 : gB z380401 1 2000 := ⟨by omega, by omega⟩
              refine G_iinc (L' := [(2, .int z380401), (3, .int g379785), (0, .ref q366859), (1, .int p366860)]) z380401 1 dr_cX17_colours_81 rfl hz380401.symm (Nat.le_of_ble_eq_true rfl) rfl ?_
              refine G_aload_n 2 dr_cX17_colours_84 rfl ?_
              refine Gp_get 18 hm379799 he380393 dr_cX17_colours_85 (gk_X17 D I) (Nat.le_of_ble_eq_true rfl) wr_7_92 rfl ?_
              refine G_iload_n 1 dr_cX17_colours_88 rfl ?_
              refine G_iconst 0 dr_cX17_colours_89 (by decide +kernel) ?_
              have hT380402 : RS D I P366857 F380389 γ el := RS_set hT379788 n380391 ht379829 (by decide) ⟨f380392, he380397, bf380392⟩
              refine Gp_zast 3 hm379849 he380395 dr_cX17_colours_90 rfl (gB_in bg379785' (by decide) (by decide)) (fun F380403 e380404 n380405 => ?_)
              obtain ⟨f380406, hf380406⟩ : ∃ z, z = upd f379851 g379785.toNatClampNeg (vp_nar .boolean 0) := ⟨_, rfl⟩
              rw [← hf380406] at e380404
              have he380407 : F380403 q366859 = .inr (22, [.ref (γ 9 0), .ref (γ 9 1), .ref (γ 9 2), .ref (γ 9 3), .ref (γ 9 4), .ref (γ 9 5), .ref (γ 9 6), .ref (γ 9 7), .ref (γ 9 8), .int p379803, .int p379804, .int p379805, .int p379806, .int p379807, .int p379808, .ref (γ 9 15), .ref (γ 9 16), .ref (γ 9 17), .ref (γ 9 18), .ref (γ 9 19), .ref (γ 9 20), .ref (γ 9 21), .ref (γ 9 22), .int p379809, .int p379810, .int p379811, .int p379812, .int p379813, .ref q379801, .ref (γ 9 29), .int p379814, .ref (γ 9 31), .int p379815, .int p379816, .int p379817, .ref q379802]) := (n380405 q366859 (rn_oa he380393 he380395)).trans he380393
              have he380408 : F380403 (γ 9 3) = .inl (I .boolean, 2000, .inl f379848) := (n380405 (γ 9 3) (rn_ty ht379823 ht379832 (by decide))).trans he380394
              have he380409 : F380403 (γ 9 15) = .inl (I .int, 2000, .inl f380392) := (n380405 (γ 9 15) (rn_ty ht379829 ht379832 (by decide))).trans he380397
              have he380410 : F380403 (γ 9 17) = .inl (I .int, 2000, .inl f379857) := (n380405 (γ 9 17) (rn_ty ht379831 ht379832 (by decide))).trans he380396
              have he380411 : F380403 (γ 9 18) = .inl (I .boolean, 2000, .inl f380406) := e380404
              have hs380412 : rStr γ [] F366858 F380403 := rStr_put hs380398 n380405 ht379832 (by decide)
              have kp380413 : F380403 q366859 = F366858 q366859 := (n380405 q366859 (rn_ty htq366859 ht379832 (by decide))).trans kp380399
              have kp380414 : F380403 (γ 9 3) = F366858 (γ 9 3) := (n380405 (γ 9 3) (rn_ty ht379823 ht379832 (by decide))).trans kp380400
              have bf380406 : gF f380406 0 1 := gF_upd hf380406 bf379851 (gB_w (gBl (show Int32.toInt 0 = 0 by decide)) (by decide) (by decide))
              have hT380416 : RS D I P366857 F380403 γ el := RS_set hT380402 n380405 ht379832 (by decide) ⟨f380406, he380411, bf380406⟩
              have td380415 := th_d hf380406 (by omega) (cq379860 (by omega))
              refine G_iconst 0 dr_cX17_colours_91 (by decide +kernel) ?_
              refine G_istore (L' := [(4, .int 0), (2, .int z380401), (3, .int g379785), (0, .ref q366859), (1, .int p366860)]) dr_cX17_colours_92 (Nat.le_of_ble_eq_true rfl) rfl ?_
              have hlp94_380552 : ∀ (n94_380552 : Nat) (F380545 : Nat → va_E) (g380544 : Int32), gB g380544 0 2000 → RS D I P366857 F380545 γ el → rStr γ [] F366858 F380545 → (∀ m : Nat, rSd (cB (F380545 (γ 9 3))) m → rSd (cB (F380545 (γ 9 18))) m ∨ ∃ i : Nat, (i : Int) < z380401.toInt ∧ (cB (F380545 (γ 9 15)) i).toInt = m) → (rcn (cB (F380545 (γ 9 18))) 2000 + (z380401.toInt : Int).toNat ≤ 2000) → (rcn (cB (F380545 (γ 9 18))) 2000 + 1 ≤ rcn (cB (F379787 (γ 9 18))) 2000) → (F380545 q366859 = F366858 q366859) → (F380545 (γ 9 3) = F366858 (γ 9 3)) → ((2001 : Int) - g380544.toInt).toNat < n94_380552 → G (gV D I) l (gRm 2 43 0 0) (gMA (gV D I) (pt_366861_SpillForgeModel_colours D I γ el P366857 F366858 q366859 p366860) gNA 0 0) ky_366861_SpillForgeModel_colours 94 [(4, .int g380544), (2, .int z380401), (3, .int g379785), (0, .ref q366859), (1, .int p366860)] [] (va_pl P366857 F380545) 0 0 := by
                intro n94_380552
                induction n94_380552 with
                | zero => intro F380545 g380544 bg380544 hT380546 hs380547 x380548 x380549 x380550 x380551 x380552 hm94_380552; exact absurd hm94_380552 (Nat.not_lt_zero _)
                | succ n94_380552 ih94_380552 =>
                  intro F380545 g380544 bg380544 hT380546 hs380547 x380548 x380549 x380550 x380551 x380552 hm94_380552
                  have hs380554 : rStr γ [] F380403 F380545 := fun b h0 hb hw => (hs380547 b h0 hb hw).trans (hs380412 b h0 hb hw).symm
                  have hs380555 : rStr γ [] F366858 F380545 := rStr_tr hs380412 hs380554
                  have hm380556 : q366859 ∈ P366857 := RS_m hT380546 htq366859 (by decide)
                  obtain ⟨q380558, q380559, p380560, p380561, p380562, p380563, p380564, p380565, p380566, p380567, p380568, p380569, p380570, p380571, p380572, p380573, p380574, he380557, hB380601, ht380575, ht380576, ht380577, ht380578, ht380579, ht380580, ht380581, ht380582, ht380583, ht380584, ht380585, ht380586, ht380587, ht380588, ht380589, ht380590, ht380591, ht380592, ht380593, ht380594, ht380595, ht380596, ht380597, ht380598, hB380602⟩ := show rk_10 γ (F380545 q366859) from RS_o hT380546 htq366859
                  have hm380603 : (γ 9 3) ∈ P366857 := RS_m hT380546 ht380580 (by decide)
                  obtain ⟨f380605, he380604, bf380605⟩ := show rk_14 I (F380545 (γ 9 3)) from RS_o hT380546 ht380580
                  have hm380606 : (γ 9 18) ∈ P366857 := RS_m hT380546 ht380589 (by decide)
                  obtain ⟨f380608, he380607, bf380608⟩ := show rk_15 I (F380545 (γ 9 18)) from RS_o hT380546 ht380589
                  have hm380609 : (γ 9 15) ∈ P366857 := RS_m hT380546 ht380586 (by decide)
                  obtain ⟨f380611, he380610, bf380611⟩ := show rk_18 I (F380545 (γ 9 15)) from RS_o hT380546 ht380586
                  have hm380612 : (γ 9 17) ∈ P366857 := RS_m hT380546 ht380588 (by decide)
                  obtain ⟨f380614, he380613, bf380614⟩ := show rk_20 I (F380545 (γ 9 17)) from RS_o hT380546 ht380588
                  have cq380615 := x380548
                  rw [cB_of he380604, cB_of he380607, cB_of he380610] at cq380615
                  have cq380616 := x380549
                  rw [cB_of he380607] at cq380616
                  have cq380617 := x380550
                  rw [cB_of he380607] at cq380617
                  refine G_iload 0 dr_cX17_colours_94 rfl ?_
                  refine G_sipush 2000 dr_cX17_colours_96 (by decide +kernel) ?_
                  refine G_icmp_ge 133 dr_cX17_colours_99 (by decide +kernel) (fun hc380618 => ?_) (fun hc380618 => ?_)
                  · have r380619 : 2000 ≤ g380544.toInt := gj_leL hc380618 (show Int32.toInt 2000 = 2000 by decide)
                    have bg380544' : gB g380544 2000 2000 := ⟨by omega, by omega⟩
                    refine G_aload_n 3 dr_cX17_colours_133 rfl ?_
                    refine G_iload_n 4 dr_cX17_colours_134 rfl ?_
                    refine Gw_callV (As := [.int p366860]) (gV_ok D I) (ct_367927_SpillForgeModel_next l hl0 D I γ el P366857 F380545 q366859 p366860 hT380546 htq366859) dr_cX17_colours_135 ⟨wr_11_51, wr_1_14, wr_11_54, by decide, rfl, (Nat.le_of_ble_eq_true rfl), (Nat.le_of_ble_eq_true rfl)⟩ wr_11_53 wr_p_107 hm380556 he380557 rfl (show 0 + 0 ≤ 0 by first | omega | decide) (show 0 + 0 ≤ 0 by first | omega | decide) (Nat.le_of_ble_eq_true rfl) (fun r380623 w380624 dc380620 ds380621 hp380622 => ?_) (fun _ _ _ _ _ z => z.elim)
                    obtain ⟨o380625, rfl, rfl, hdc, hds, bo380625, x380626, x380627⟩ := hp380622
                    change G _ _ _ _ _ _ _ (.int o380625 :: _) _ _ _
                    refine G_widen (cs' := 0) (sl' := 0) (by omega) (by omega) ?_
                    refine G_istore_n (L' := [(3, .int o380625), (4, .int g380544), (2, .int z380401), (0, .ref q366859), (1, .int p366860)]) dr_cX17_colours_138 (Nat.le_of_ble_eq_true rfl) rfl ?_
                    refine G_goto 70 dr_cX17_colours_139 (by decide +kernel) ?_
                    refine G_lv (L' := [(3, .int o380625), (2, .int z380401), (0, .ref q366859), (1, .int p366860)]) [0, 2, 3, 4] rfl ?_
                    exact ih70_379795 F380545 o380625 z380401 bo380625 (gB_w bz380401 (by decide) (by decide)) hT380546 hs380547 (by rw [cB_of he380604, cB_of he380607, cB_of he380610]; exact cq380615) (by rw [cB_of he380607]; exact cq380616) x380626 x380627 x380551 x380552 (by have q := cq380617; rw [cB_of he379850] at q; rw [cB_of he380607]; rw [cB_of he379850] at hm70_379795; omega)
                  · have r380628 : g380544.toInt < 2000 := gj_nleL hc380618 (show Int32.toInt 2000 = 2000 by decide)
                    have bg380544' : gB g380544 0 1999 := ⟨by omega, by omega⟩
                    refine G_aload_n 3 dr_cX17_colours_102 rfl ?_
                    refine Gp_get 1 hm380556 he380557 dr_cX17_colours_103 (gk_X17 D I) (Nat.le_of_ble_eq_true rfl) wr_7_75 rfl ?_
                    refine G_iload_n 2 dr_cX17_colours_106 rfl ?_
                    have hm380629 : (γ 9 1) ∈ P366857 := RS_m hT380546 ht380578 (by decide)
                    obtain ⟨f380631, he380630, hg380632⟩ := show rk_13 I γ (F380545 (γ 9 1)) from RS_o hT380546 ht380578
                    obtain ⟨q380633, hx380635⟩ : ∃ x, x = γ 11 g379785.toInt.toNat := ⟨_, rfl⟩
                    have ht380634 : rKd γ q380633 36 := by rw [hx380635]; exact (hg380632 _ (show g379785.toInt.toNat < 2000 by omega)).2.1
                    refine Gp_aald 5 hm380629 he380630 dr_cX17_colours_107 rfl rfl (gB_in bg379785' (by decide) (by decide)) ?_
                    rw [show f380631 g379785.toNatClampNeg = some q380633 from (hg380632 _ (show g379785.toInt.toNat < 2000 by omega)).1.trans (by rw [hx380635])]
                    change G _ _ _ _ _ _ _ (.ref q380633 :: _) _ _ _
                    refine G_iload 0 dr_cX17_colours_108 rfl ?_
                    have hm380636 : q380633 ∈ P366857 := RS_m hT380546 ht380634 (by decide)
                    obtain ⟨f380638, he380637, wf380638⟩ := show rk_36 I (F380545 q380633) from RS_o hT380546 ht380634
                    refine Gw_callS (As := [.ref q380633, .int g380544]) (gV_ok D I) (cp_1838_SpillForgeModel_has l hl0 D I P366857 F380545 q380633 g380544 f380638 hm380636 he380637 (gB_w bg380544' (by decide) (by decide))) dr_cX17_colours_110 ⟨wr_10_203, wr_1_14, wr_10_205, by decide, rfl, (Nat.le_of_ble_eq_true rfl), (Nat.le_of_ble_eq_true rfl)⟩ wr_10_204 (show 0 + 0 ≤ 0 by first | omega | decide) (show 0 + 0 ≤ 0 by first | omega | decide) (Nat.le_of_ble_eq_true rfl) (fun r380642 w380643 dc380639 ds380640 hp380641 => ?_) (fun _ _ _ _ _ z => z.elim)
                    rcases hp380641 with ⟨z380644, z380645, rfl, rfl, hdc, hds, r380646, r380647, r380648, r380649⟩ | ⟨z380650, z380651, rfl, rfl, hdc, hds, r380652, r380653, r380654, r380655⟩
                    · change G _ _ _ _ _ _ _ (.int 0 :: _) _ _ _
                      refine G_widen (cs' := 0) (sl' := 0) (by omega) (by omega) ?_
                      refine G_if_eq 127 dr_cX17_colours_113 (by decide +kernel) (fun _ => ?_) (fun hc => absurd hc (by decide))
                      obtain ⟨z380657, hz380657⟩ : ∃ z : Int32, z = g380544 + Int32.ofInt 1 := ⟨_, rfl⟩
                      have ez380657 : z380657.toInt = g380544.toInt + 1 := gI_inc hz380657 (by decide) bg380544' (by decide) (by decide)
                      have bz380657 : gB z380657 1 2000 := ⟨by omega, by omega⟩
                      refine G_iinc (L' := [(4, .int z380657), (2, .int z380401), (3, .int g379785), (0, .ref q366859), (1, .int p366860)]) z380657 0 dr_cX17_colours_127 rfl hz380657.symm (Nat.le_of_ble_eq_true rfl) rfl ?_
                      refine G_goto 94 dr_cX17_colours_130 (by decide +kernel) ?_
                      exact ih94_380552 F380545 z380657 (gB_w bz380657 (by decide) (by decide)) hT380546 hs380547 (by rw [cB_of he380604, cB_of he380607, cB_of he380610]; exact cq380615) (by rw [cB_of he380607]; exact cq380616) (by rw [cB_of he380607]; exact cq380617) x380551 x380552 (by omega)
                    · change G _ _ _ _ _ _ _ (.int 1 :: _) _ _ _
                      refine G_widen (cs' := 0) (sl' := 0) (by omega) (by omega) ?_
                      refine G_if_eq 127 dr_cX17_colours_113 (by decide +kernel) (fun hc => absurd hc (by decide)) (fun _ => ?_)
                      refine G_aload_n 3 dr_cX17_colours_116 rfl ?_
                      refine Gp_get 16 hm380556 he380557 dr_cX17_colours_117 (gk_X17 D I) (Nat.le_of_ble_eq_true rfl) wr_7_90 rfl ?_
                      refine G_iload 0 dr_cX17_colours_120 rfl ?_
                      refine G_dup2_11 dr_cX17_colours_122 rfl rfl ?_
                      have hm380658 : (γ 9 16) ∈ P366857 := RS_m hT380546 ht380587 (by decide)
                      obtain ⟨f380660, he380659⟩ := show rk_19 I (F380545 (γ 9 16)) from RS_o hT380546 ht380587
                      refine Gp_iald 0 hm380658 he380659 dr_cX17_colours_123 rfl (gB_in bg380544' (by decide) (by decide)) (G_nam fun z380661 hz380661 => ?_)
                      have bz380661 : gB z380661 (-2147483648) 2147483647 := gB_any z380661
                      refine G_iconst 1 dr_cX17_colours_124 (by decide +kernel) ?_
                      refine G_isub dr_cX17_colours_125 (G_nam fun z380662 hz380662 => ?_)
                      have bz380662 : gB z380662 (-2147483648) 2147483647 := gB_any z380662
                      refine Gp_iast 0 hm380658 he380659 dr_cX17_colours_126 rfl (gB_in bg380544' (by decide) (by decide)) (fun F380663 e380664 n380665 => ?_)
                      obtain ⟨f380666, hf380666⟩ : ∃ z, z = upd f380660 g380544.toNatClampNeg z380662 := ⟨_, rfl⟩
                      rw [← hf380666] at e380664
                      have he380667 : F380663 q366859 = .inr (22, [.ref (γ 9 0), .ref (γ 9 1), .ref (γ 9 2), .ref (γ 9 3), .ref (γ 9 4), .ref (γ 9 5), .ref (γ 9 6), .ref (γ 9 7), .ref (γ 9 8), .int p380560, .int p380561, .int p380562, .int p380563, .int p380564, .int p380565, .ref (γ 9 15), .ref (γ 9 16), .ref (γ 9 17), .ref (γ 9 18), .ref (γ 9 19), .ref (γ 9 20), .ref (γ 9 21), .ref (γ 9 22), .int p380566, .int p380567, .int p380568, .int p380569, .int p380570, .ref q380558, .ref (γ 9 29), .int p380571, .ref (γ 9 31), .int p380572, .int p380573, .int p380574, .ref q380559]) := (n380665 q366859 (rn_oa he380557 he380659)).trans he380557
                      have he380668 : F380663 (γ 9 3) = .inl (I .boolean, 2000, .inl f380605) := (n380665 (γ 9 3) (rn_ty ht380580 ht380587 (by decide))).trans he380604
                      have he380669 : F380663 (γ 9 18) = .inl (I .boolean, 2000, .inl f380608) := (n380665 (γ 9 18) (rn_ty ht380589 ht380587 (by decide))).trans he380607
                      have he380670 : F380663 (γ 9 15) = .inl (I .int, 2000, .inl f380611) := (n380665 (γ 9 15) (rn_ty ht380586 ht380587 (by decide))).trans he380610
                      have he380671 : F380663 (γ 9 17) = .inl (I .int, 2000, .inl f380614) := (n380665 (γ 9 17) (rn_ty ht380588 ht380587 (by decide))).trans he380613
                      have he380672 : F380663 (γ 9 1) = .inl (I (.array .long), 2000, .inr (.inr (.inr (.inr f380631)))) := (n380665 (γ 9 1) (rn_ref_num he380630 he380659)).trans he380630
                      have he380673 : F380663 q380633 = .inl (I .long, 32, .inr (.inl f380638)) := (n380665 q380633 (rn_long_num he380637 he380659)).trans he380637
                      have he380674 : F380663 (γ 9 16) = .inl (I .int, 2000, .inl f380666) := e380664
                      have hs380675 : rStr γ [] F366858 F380663 := rStr_put hs380547 n380665 ht380587 (by decide)
                      have kp380676 : F380663 q366859 = F366858 q366859 := (n380665 q366859 (rn_ty htq366859 ht380587 (by decide))).trans x380551
                      have kp380677 : F380663 (γ 9 3) = F366858 (γ 9 3) := (n380665 (γ 9 3) (rn_ty ht380580 ht380587 (by decide))).trans x380552
                      obtain ⟨z380678, hz380678⟩ : ∃ z : Int32, z = g380544 + Int32.ofInt 1 := ⟨_, rfl⟩
                      have ez380678 : z380678.toInt = g380544.toInt + 1 := gI_inc hz380678 (by decide) bg380544' (by decide) (by decide)
                      have bz380678 : gB z380678 1 2000 := ⟨by omega, by omega⟩
                      refine G_iinc (L' := [(4, .int z380678), (2, .int z380401), (3, .int g379785), (0, .ref q366859), (1, .int p366860)]) z380678 0 dr_cX17_colours_127 rfl hz380678.symm (Nat.le_of_ble_eq_true rfl) rfl ?_
                      refine G_goto 94 dr_cX17_colours_130 (by decide +kernel) ?_
                      have hT380679 : RS D I P366857 F380663 γ el := RS_set hT380546 n380665 ht380587 (by decide) ⟨f380666, he380674⟩
                      exact ih94_380552 F380663 z380678 (gB_w bz380678 (by decide) (by decide)) hT380679 hs380675 (by rw [cB_of he380668, cB_of he380669, cB_of he380670]; exact cq380615) (by rw [cB_of he380669]; exact cq380616) (by rw [cB_of he380669]; exact cq380617) kp380676 kp380677 (by omega)
              exact hlp94_380552 (((2001 : Int) - 0).toNat + 1) F380403 0 (gB_w (gBl (show Int32.toInt 0 = 0 by decide)) (by decide) (by decide)) hT380416 hs380412 (by rw [ez380401]; rw [cB_of he380408, cB_of he380411, cB_of he380409]; exact pi_u hf380406 hf380392 (by omega) (by omega) cq379858) (by rw [cB_of he380411]; have q := td380415; have q2 := cq379859; omega) (by rw [cB_of he380411]; rw [cB_of he379850]; have q := td380415; omega) kp380413 kp380414 (Nat.lt_succ_self _)
        exact hlp70_379795 ((rcn (cB (F378827 (γ 9 18))) 2000) + 1) F378827 o378903 0 bo378903 (gB_w (gBl (show Int32.toInt 0 = 0 by decide)) (by decide) (by decide)) hT378828 hs378829 (by rw [cB_of he378884, cB_of he378887, cB_of he378890]; exact fun m s => Or.inl (cq378895 m (by have := s.1; omega) s)) (by have q := rcn_le (g := cB (F378827 (γ 9 18))) 2000; have qa : Int32.toInt 0 = 0 := (by decide); omega) x378904 x378905 x378831 x378832 (Nat.lt_succ_self _)
      · have r380680 : g378826.toInt < 2000 := gj_nleL hc378896 (show Int32.toInt 2000 = 2000 by decide)
        have bg378826' : gB g378826 0 1999 := ⟨by omega, by omega⟩
        refine G_aload_n 1 dr_cX17_colours_9 rfl ?_
        refine Gp_get 18 hm378836 he378837 dr_cX17_colours_10 (gk_X17 D I) (Nat.le_of_ble_eq_true rfl) wr_7_92 rfl ?_
        refine G_iload_n 0 dr_cX17_colours_13 rfl ?_
        refine G_aload_n 1 dr_cX17_colours_14 rfl ?_
        refine Gp_get 3 hm378836 he378837 dr_cX17_colours_15 (gk_X17 D I) (Nat.le_of_ble_eq_true rfl) wr_7_77 rfl ?_
        refine G_iload_n 0 dr_cX17_colours_18 rfl ?_
        refine Gp_zald 3 hm378883 he378884 dr_cX17_colours_19 rfl (gB_in bg378826' (by decide) (by decide)) (G_nam fun z380681 hz380681 => ?_)
        have bz380681 : gB z380681 0 1 := by rw [hz380681]; exact bf378885 _
        refine Gp_zast 3 hm378886 he378887 dr_cX17_colours_20 rfl (gB_in bg378826' (by decide) (by decide)) (fun F380682 e380683 n380684 => ?_)
        obtain ⟨f380685, hf380685⟩ : ∃ z, z = upd f378888 g378826.toNatClampNeg (vp_nar .boolean z380681) := ⟨_, rfl⟩
        rw [← hf380685] at e380683
        have he380686 : F380682 q366859 = .inr (22, [.ref (γ 9 0), .ref (γ 9 1), .ref (γ 9 2), .ref (γ 9 3), .ref (γ 9 4), .ref (γ 9 5), .ref (γ 9 6), .ref (γ 9 7), .ref (γ 9 8), .int p378840, .int p378841, .int p378842, .int p378843, .int p378844, .int p378845, .ref (γ 9 15), .ref (γ 9 16), .ref (γ 9 17), .ref (γ 9 18), .ref (γ 9 19), .ref (γ 9 20), .ref (γ 9 21), .ref (γ 9 22), .int p378846, .int p378847, .int p378848, .int p378849, .int p378850, .ref q378838, .ref (γ 9 29), .int p378851, .ref (γ 9 31), .int p378852, .int p378853, .int p378854, .ref q378839]) := (n380684 q366859 (rn_oa he378837 he378887)).trans he378837
        have he380687 : F380682 (γ 9 3) = .inl (I .boolean, 2000, .inl f378885) := (n380684 (γ 9 3) (rn_ty ht378860 ht378869 (by decide))).trans he378884
        have he380688 : F380682 (γ 9 15) = .inl (I .int, 2000, .inl f378891) := (n380684 (γ 9 15) (rn_ty ht378866 ht378869 (by decide))).trans he378890
        have he380689 : F380682 (γ 9 17) = .inl (I .int, 2000, .inl f378894) := (n380684 (γ 9 17) (rn_ty ht378868 ht378869 (by decide))).trans he378893
        have he380690 : F380682 (γ 9 18) = .inl (I .boolean, 2000, .inl f380685) := e380683
        have hs380691 : rStr γ [] F366858 F380682 := rStr_put hs378829 n380684 ht378869 (by decide)
        have kp380692 : F380682 q366859 = F366858 q366859 := (n380684 q366859 (rn_ty htq366859 ht378869 (by decide))).trans x378831
        have kp380693 : F380682 (γ 9 3) = F366858 (γ 9 3) := (n380684 (γ 9 3) (rn_ty ht378860 ht378869 (by decide))).trans x378832
        have bf380685 : gF f380685 0 1 := gF_upd hf380685 bf378888 bz380681
        refine G_aload_n 1 dr_cX17_colours_21 rfl ?_
        refine Gp_get 16 hm378836 he380686 dr_cX17_colours_22 (gk_X17 D I) (Nat.le_of_ble_eq_true rfl) wr_7_90 rfl ?_
        refine G_iload_n 0 dr_cX17_colours_25 rfl ?_
        refine G_aload_n 1 dr_cX17_colours_26 rfl ?_
        refine Gp_get 3 hm378836 he380686 dr_cX17_colours_27 (gk_X17 D I) (Nat.le_of_ble_eq_true rfl) wr_7_77 rfl ?_
        refine G_iload_n 0 dr_cX17_colours_30 rfl ?_
        refine Gp_zald 3 hm378883 he380687 dr_cX17_colours_31 rfl (gB_in bg378826' (by decide) (by decide)) (G_eqi (y := z380681) hz380681.symm ?_)
        refine G_if_eq 47 dr_cX17_colours_32 (by decide +kernel) (fun hc380694 => ?_) (fun hc380694 => ?_)
        · have r380695 : z380681.toInt = 0 := gj_eq hc380694 (show Int32.toInt 0 = 0 by decide)
          have bz380681' : gB z380681 0 0 := ⟨by omega, by omega⟩
          refine G_iconst 0 dr_cX17_colours_47 (by decide +kernel) ?_
          have hT380696 : RS D I P366857 F380682 γ el := RS_set hT378828 n380684 ht378869 (by decide) ⟨f380685, he380690, bf380685⟩
          have hm380697 : (γ 9 16) ∈ P366857 := RS_m hT380696 ht378867 (by decide)
          obtain ⟨f380699, he380698⟩ := show rk_19 I (F380682 (γ 9 16)) from RS_o hT380696 ht378867
          refine Gp_iast 0 hm380697 he380698 dr_cX17_colours_48 rfl (gB_in bg378826' (by decide) (by decide)) (fun F380700 e380701 n380702 => ?_)
          obtain ⟨f380703, hf380703⟩ : ∃ z, z = upd f380699 g378826.toNatClampNeg 0 := ⟨_, rfl⟩
          rw [← hf380703] at e380701
          have he380704 : F380700 q366859 = .inr (22, [.ref (γ 9 0), .ref (γ 9 1), .ref (γ 9 2), .ref (γ 9 3), .ref (γ 9 4), .ref (γ 9 5), .ref (γ 9 6), .ref (γ 9 7), .ref (γ 9 8), .int p378840, .int p378841, .int p378842, .int p378843, .int p378844, .int p378845, .ref (γ 9 15), .ref (γ 9 16), .ref (γ 9 17), .ref (γ 9 18), .ref (γ 9 19), .ref (γ 9 20), .ref (γ 9 21), .ref (γ 9 22), .int p378846, .int p378847, .int p378848, .int p378849, .int p378850, .ref q378838, .ref (γ 9 29), .int p378851, .ref (γ 9 31), .int p378852, .int p378853, .int p378854, .ref q378839]) := (n380702 q366859 (rn_oa he380686 he380698)).trans he380686
          have he380705 : F380700 (γ 9 3) = .inl (I .boolean, 2000, .inl f378885) := (n380702 (γ 9 3) (rn_ty ht378860 ht378867 (by decide))).trans he380687
          have he380706 : F380700 (γ 9 18) = .inl (I .boolean, 2000, .inl f380685) := (n380702 (γ 9 18) (rn_ty ht378869 ht378867 (by decide))).trans he380690
          have he380707 : F380700 (γ 9 15) = .inl (I .int, 2000, .inl f378891) := (n380702 (γ 9 15) (rn_ty ht378866 ht378867 (by decide))).trans he380688
          have he380708 : F380700 (γ 9 17) = .inl (I .int, 2000, .inl f378894) := (n380702 (γ 9 17) (rn_ty ht378868 ht378867 (by decide))).trans he380689
          have he380709 : F380700 (γ 9 16) = .inl (I .int, 2000, .inl f380703) := e380701
          have hs380710 : rStr γ [] F366858 F380700 := rStr_put hs380691 n380702 ht378867 (by decide)
          have kp380711 : F380700 q366859 = F366858 q366859 := (n380702 q366859 (rn_ty htq366859 ht378867 (by decide))).trans kp380692
          have kp380712 : F380700 (γ 9 3) = F366858 (γ 9 3) := (n380702 (γ 9 3) (rn_ty ht378860 ht378867 (by decide))).trans kp380693
          refine G_aload_n 1 dr_cX17_colours_49 rfl ?_
          refine Gp_get 17 hm378836 he380704 dr_cX17_colours_50 (gk_X17 D I) (Nat.le_of_ble_eq_true rfl) wr_7_91 rfl ?_
          refine G_iload_n 0 dr_cX17_colours_53 rfl ?_
          refine G_iconst (-1) dr_cX17_colours_54 (by decide +kernel) ?_
          have hT380713 : RS D I P366857 F380700 γ el := RS_set hT380696 n380702 ht378867 (by decide) ⟨f380703, he380709⟩
          refine Gp_iast 0 hm378892 he380708 dr_cX17_colours_55 rfl (gB_in bg378826' (by decide) (by decide)) (fun F380714 e380715 n380716 => ?_)
          obtain ⟨f380717, hf380717⟩ : ∃ z, z = upd f378894 g378826.toNatClampNeg (-1) := ⟨_, rfl⟩
          rw [← hf380717] at e380715
          have he380718 : F380714 q366859 = .inr (22, [.ref (γ 9 0), .ref (γ 9 1), .ref (γ 9 2), .ref (γ 9 3), .ref (γ 9 4), .ref (γ 9 5), .ref (γ 9 6), .ref (γ 9 7), .ref (γ 9 8), .int p378840, .int p378841, .int p378842, .int p378843, .int p378844, .int p378845, .ref (γ 9 15), .ref (γ 9 16), .ref (γ 9 17), .ref (γ 9 18), .ref (γ 9 19), .ref (γ 9 20), .ref (γ 9 21), .ref (γ 9 22), .int p378846, .int p378847, .int p378848, .int p378849, .int p378850, .ref q378838, .ref (γ 9 29), .int p378851, .ref (γ 9 31), .int p378852, .int p378853, .int p378854, .ref q378839]) := (n380716 q366859 (rn_oa he380704 he380708)).trans he380704
          have he380719 : F380714 (γ 9 3) = .inl (I .boolean, 2000, .inl f378885) := (n380716 (γ 9 3) (rn_ty ht378860 ht378868 (by decide))).trans he380705
          have he380720 : F380714 (γ 9 18) = .inl (I .boolean, 2000, .inl f380685) := (n380716 (γ 9 18) (rn_ty ht378869 ht378868 (by decide))).trans he380706
          have he380721 : F380714 (γ 9 15) = .inl (I .int, 2000, .inl f378891) := (n380716 (γ 9 15) (rn_ty ht378866 ht378868 (by decide))).trans he380707
          have he380722 : F380714 (γ 9 16) = .inl (I .int, 2000, .inl f380703) := (n380716 (γ 9 16) (rn_ty ht378867 ht378868 (by decide))).trans he380709
          have he380723 : F380714 (γ 9 17) = .inl (I .int, 2000, .inl f380717) := e380715
          have hs380724 : rStr γ [] F366858 F380714 := rStr_put hs380710 n380716 ht378868 (by decide)
          have kp380725 : F380714 q366859 = F366858 q366859 := (n380716 q366859 (rn_ty htq366859 ht378868 (by decide))).trans kp380711
          have kp380726 : F380714 (γ 9 3) = F366858 (γ 9 3) := (n380716 (γ 9 3) (rn_ty ht378860 ht378868 (by decide))).trans kp380712
          have bf380717 : gF f380717 (-1) 31 := gF_upd hf380717 bf378894 (gB_w (gBl (show Int32.toInt (-1) = (-1) by decide)) (by decide) (by decide))
          obtain ⟨z380727, hz380727⟩ : ∃ z : Int32, z = g378826 + Int32.ofInt 1 := ⟨_, rfl⟩
          have ez380727 : z380727.toInt = g378826.toInt + 1 := gI_inc hz380727 (by decide) bg378826' (by decide) (by decide)
          have bz380727 : gB z380727 1 2000 := ⟨by omega, by omega⟩
          refine G_iinc (L' := [(2, .int z380727), (0, .ref q366859), (1, .int p366860)]) z380727 0 dr_cX17_colours_56 rfl hz380727.symm (Nat.le_of_ble_eq_true rfl) rfl ?_
          refine G_goto 2 dr_cX17_colours_59 (by decide +kernel) ?_
          have hT380728 : RS D I P366857 F380714 γ el := RS_set hT380713 n380716 ht378868 (by decide) ⟨f380717, he380723, bf380717⟩
          exact ih2_378832 F380714 z380727 (gB_w bz380727 (by decide) (by decide)) hT380728 hs380724 (by rw [ez380727]; rw [cB_of he380719, cB_of he380720]; exact th_u hf380685 hz380681 (by assumption) (by omega) cq378895) kp380725 kp380726 (by omega)
        · have r380729 : z380681.toInt ≠ 0 := gj_neq hc380694 (show Int32.toInt 0 = 0 by decide)
          have bz380681' : gB z380681 1 1 := ⟨by omega, by omega⟩
          refine G_aload_n 1 dr_cX17_colours_35 rfl ?_
          refine Gp_get 1 hm378836 he380686 dr_cX17_colours_36 (gk_X17 D I) (Nat.le_of_ble_eq_true rfl) wr_7_75 rfl ?_
          refine G_iload_n 0 dr_cX17_colours_39 rfl ?_
          have hT380730 : RS D I P366857 F380682 γ el := RS_set hT378828 n380684 ht378869 (by decide) ⟨f380685, he380690, bf380685⟩
          have hm380731 : (γ 9 1) ∈ P366857 := RS_m hT380730 ht378858 (by decide)
          obtain ⟨f380733, he380732, hg380734⟩ := show rk_13 I γ (F380682 (γ 9 1)) from RS_o hT380730 ht378858
          obtain ⟨q380735, hx380737⟩ : ∃ x, x = γ 11 g378826.toInt.toNat := ⟨_, rfl⟩
          have ht380736 : rKd γ q380735 36 := by rw [hx380737]; exact (hg380734 _ (show g378826.toInt.toNat < 2000 by omega)).2.1
          refine Gp_aald 5 hm380731 he380732 dr_cX17_colours_40 rfl rfl (gB_in bg378826' (by decide) (by decide)) ?_
          rw [show f380733 g378826.toNatClampNeg = some q380735 from (hg380734 _ (show g378826.toInt.toNat < 2000 by omega)).1.trans (by rw [hx380737])]
          change G _ _ _ _ _ _ _ (.ref q380735 :: _) _ _ _
          have hm380738 : q380735 ∈ P366857 := RS_m hT380730 ht380736 (by decide)
          obtain ⟨f380740, he380739, wf380740⟩ := show rk_36 I (F380682 q380735) from RS_o hT380730 ht380736
          refine Gw_callS (As := [.ref q380735]) (gV_ok D I) (cp_1892_SpillForgeModel_count l hl0 D I P366857 F380682 q380735 f380740 hm380738 he380739) dr_cX17_colours_41 ⟨wr_11_16, wr_1_14, wr_11_18, by decide, rfl, (Nat.le_of_ble_eq_true rfl), (Nat.le_of_ble_eq_true rfl)⟩ wr_11_17 (show 0 + 0 ≤ 0 by first | omega | decide) (show 0 + 0 ≤ 0 by first | omega | decide) (Nat.le_of_ble_eq_true rfl) (fun r380744 w380745 dc380741 ds380742 hp380743 => ?_) (fun _ _ _ _ _ z => z.elim)
          obtain ⟨o380746, rfl, rfl, hdc, hds⟩ := hp380743
          have bo380746 := gB_any o380746
          change G _ _ _ _ _ _ _ (.int o380746 :: _) _ _ _
          refine G_widen (cs' := 0) (sl' := 0) (by omega) (by omega) ?_
          refine G_goto 48 dr_cX17_colours_44 (by decide +kernel) ?_
          have hm380747 : (γ 9 16) ∈ P366857 := RS_m hT380730 ht378867 (by decide)
          obtain ⟨f380749, he380748⟩ := show rk_19 I (F380682 (γ 9 16)) from RS_o hT380730 ht378867
          refine Gp_iast 0 hm380747 he380748 dr_cX17_colours_48 rfl (gB_in bg378826' (by decide) (by decide)) (fun F380750 e380751 n380752 => ?_)
          obtain ⟨f380753, hf380753⟩ : ∃ z, z = upd f380749 g378826.toNatClampNeg o380746 := ⟨_, rfl⟩
          rw [← hf380753] at e380751
          have he380754 : F380750 q366859 = .inr (22, [.ref (γ 9 0), .ref (γ 9 1), .ref (γ 9 2), .ref (γ 9 3), .ref (γ 9 4), .ref (γ 9 5), .ref (γ 9 6), .ref (γ 9 7), .ref (γ 9 8), .int p378840, .int p378841, .int p378842, .int p378843, .int p378844, .int p378845, .ref (γ 9 15), .ref (γ 9 16), .ref (γ 9 17), .ref (γ 9 18), .ref (γ 9 19), .ref (γ 9 20), .ref (γ 9 21), .ref (γ 9 22), .int p378846, .int p378847, .int p378848, .int p378849, .int p378850, .ref q378838, .ref (γ 9 29), .int p378851, .ref (γ 9 31), .int p378852, .int p378853, .int p378854, .ref q378839]) := (n380752 q366859 (rn_oa he380686 he380748)).trans he380686
          have he380755 : F380750 (γ 9 3) = .inl (I .boolean, 2000, .inl f378885) := (n380752 (γ 9 3) (rn_ty ht378860 ht378867 (by decide))).trans he380687
          have he380756 : F380750 (γ 9 18) = .inl (I .boolean, 2000, .inl f380685) := (n380752 (γ 9 18) (rn_ty ht378869 ht378867 (by decide))).trans he380690
          have he380757 : F380750 (γ 9 15) = .inl (I .int, 2000, .inl f378891) := (n380752 (γ 9 15) (rn_ty ht378866 ht378867 (by decide))).trans he380688
          have he380758 : F380750 (γ 9 17) = .inl (I .int, 2000, .inl f378894) := (n380752 (γ 9 17) (rn_ty ht378868 ht378867 (by decide))).trans he380689
          have he380759 : F380750 (γ 9 1) = .inl (I (.array .long), 2000, .inr (.inr (.inr (.inr f380733)))) := (n380752 (γ 9 1) (rn_ref_num he380732 he380748)).trans he380732
          have he380760 : F380750 q380735 = .inl (I .long, 32, .inr (.inl f380740)) := (n380752 q380735 (rn_long_num he380739 he380748)).trans he380739
          have he380761 : F380750 (γ 9 16) = .inl (I .int, 2000, .inl f380753) := e380751
          have hs380762 : rStr γ [] F366858 F380750 := rStr_put hs380691 n380752 ht378867 (by decide)
          have kp380763 : F380750 q366859 = F366858 q366859 := (n380752 q366859 (rn_ty htq366859 ht378867 (by decide))).trans kp380692
          have kp380764 : F380750 (γ 9 3) = F366858 (γ 9 3) := (n380752 (γ 9 3) (rn_ty ht378860 ht378867 (by decide))).trans kp380693
          refine G_aload_n 1 dr_cX17_colours_49 rfl ?_
          refine Gp_get 17 hm378836 he380754 dr_cX17_colours_50 (gk_X17 D I) (Nat.le_of_ble_eq_true rfl) wr_7_91 rfl ?_
          refine G_iload_n 0 dr_cX17_colours_53 rfl ?_
          refine G_iconst (-1) dr_cX17_colours_54 (by decide +kernel) ?_
          have hT380765 : RS D I P366857 F380750 γ el := RS_set hT380730 n380752 ht378867 (by decide) ⟨f380753, he380761⟩
          refine Gp_iast 0 hm378892 he380758 dr_cX17_colours_55 rfl (gB_in bg378826' (by decide) (by decide)) (fun F380766 e380767 n380768 => ?_)
          obtain ⟨f380769, hf380769⟩ : ∃ z, z = upd f378894 g378826.toNatClampNeg (-1) := ⟨_, rfl⟩
          rw [← hf380769] at e380767
          have he380770 : F380766 q366859 = .inr (22, [.ref (γ 9 0), .ref (γ 9 1), .ref (γ 9 2), .ref (γ 9 3), .ref (γ 9 4), .ref (γ 9 5), .ref (γ 9 6), .ref (γ 9 7), .ref (γ 9 8), .int p378840, .int p378841, .int p378842, .int p378843, .int p378844, .int p378845, .ref (γ 9 15), .ref (γ 9 16), .ref (γ 9 17), .ref (γ 9 18), .ref (γ 9 19), .ref (γ 9 20), .ref (γ 9 21), .ref (γ 9 22), .int p378846, .int p378847, .int p378848, .int p378849, .int p378850, .ref q378838, .ref (γ 9 29), .int p378851, .ref (γ 9 31), .int p378852, .int p378853, .int p378854, .ref q378839]) := (n380768 q366859 (rn_oa he380754 he380758)).trans he380754
          have he380771 : F380766 (γ 9 3) = .inl (I .boolean, 2000, .inl f378885) := (n380768 (γ 9 3) (rn_ty ht378860 ht378868 (by decide))).trans he380755
          have he380772 : F380766 (γ 9 18) = .inl (I .boolean, 2000, .inl f380685) := (n380768 (γ 9 18) (rn_ty ht378869 ht378868 (by decide))).trans he380756
          have he380773 : F380766 (γ 9 15) = .inl (I .int, 2000, .inl f378891) := (n380768 (γ 9 15) (rn_ty ht378866 ht378868 (by decide))).trans he380757
          have he380774 : F380766 (γ 9 1) = .inl (I (.array .long), 2000, .inr (.inr (.inr (.inr f380733)))) := (n380768 (γ 9 1) (rn_ref_num he380759 he380758)).trans he380759
          have he380775 : F380766 q380735 = .inl (I .long, 32, .inr (.inl f380740)) := (n380768 q380735 (rn_long_num he380760 he380758)).trans he380760
          have he380776 : F380766 (γ 9 16) = .inl (I .int, 2000, .inl f380753) := (n380768 (γ 9 16) (rn_ty ht378867 ht378868 (by decide))).trans he380761
          have he380777 : F380766 (γ 9 17) = .inl (I .int, 2000, .inl f380769) := e380767
          have hs380778 : rStr γ [] F366858 F380766 := rStr_put hs380762 n380768 ht378868 (by decide)
          have kp380779 : F380766 q366859 = F366858 q366859 := (n380768 q366859 (rn_ty htq366859 ht378868 (by decide))).trans kp380763
          have kp380780 : F380766 (γ 9 3) = F366858 (γ 9 3) := (n380768 (γ 9 3) (rn_ty ht378860 ht378868 (by decide))).trans kp380764
          have bf380769 : gF f380769 (-1) 31 := gF_upd hf380769 bf378894 (gB_w (gBl (show Int32.toInt (-1) = (-1) by decide)) (by decide) (by decide))
          obtain ⟨z380781, hz380781⟩ : ∃ z : Int32, z = g378826 + Int32.ofInt 1 := ⟨_, rfl⟩
          have ez380781 : z380781.toInt = g378826.toInt + 1 := gI_inc hz380781 (by decide) bg378826' (by decide) (by decide)
          have bz380781 : gB z380781 1 2000 := ⟨by omega, by omega⟩
          refine G_iinc (L' := [(2, .int z380781), (0, .ref q366859), (1, .int p366860)]) z380781 0 dr_cX17_colours_56 rfl hz380781.symm (Nat.le_of_ble_eq_true rfl) rfl ?_
          refine G_goto 2 dr_cX17_colours_59 (by decide +kernel) ?_
          have hT380782 : RS D I P366857 F380766 γ el := RS_set hT380765 n380768 ht378868 (by decide) ⟨f380769, he380777, bf380769⟩
          exact ih2_378832 F380766 z380781 (gB_w bz380781 (by decide) (by decide)) hT380782 hs380778 (by rw [ez380781]; rw [cB_of he380771, cB_of he380772]; exact th_u hf380685 hz380681 (by assumption) (by omega) cq378895) kp380779 kp380780 (by omega)
  exact hlp2_378832 (((2001 : Int) - 0).toNat + 1) F366858 0 (gB_w (gBl (show Int32.toInt 0 = 0 by decide)) (by decide) (by decide)) hT (rStr_rf (γ := γ) (W := []) (F := F366858)) (fun m hm => absurd hm (by have qa : Int32.toInt 0 = 0 := (by decide); omega)) rfl rfl (Nat.lt_succ_self _)
