theorem dr_cX17_colours_0 : decode cX17_colours 0 = .ok (.iconst 0, 1) := by decide +kernel
theorem dr_cX17_colours_1 : decode cX17_colours 1 = .ok (.istore_n 2, 1) := by decide +kernel
theorem dr_cX17_colours_2 : decode cX17_colours 2 = .ok (.iload_n 2, 1) := by decide +kernel
theorem dr_cX17_colours_3 : decode cX17_colours 3 = .ok (.sipush 2000, 3) := by decide +kernel
theorem dr_cX17_colours_6 : decode cX17_colours 6 = .ok (.if_icmp .ge 56, 3) := by decide +kernel
theorem dr_cX17_colours_62 : decode cX17_colours 62 = .ok (.iconst 0, 1) := by decide +kernel
theorem dr_cX17_colours_63 : decode cX17_colours 63 = .ok (.istore_n 2, 1) := by decide +kernel
theorem dr_cX17_colours_64 : decode cX17_colours 64 = .ok (.aload_n 0, 1) := by decide +kernel
theorem dr_cX17_colours_65 : decode cX17_colours 65 = .ok (.iload_n 1, 1) := by decide +kernel
theorem dr_cX17_colours_66 : decode cX17_colours 66 = .ok (.invokevirtual 215, 3) := by decide +kernel
theorem wr_11_51 : (Jvm.Cond.methodLink "SpillForgeModel" (215 : Nat) ({ cls := "SpillForgeModel", name := "next", desc := "(I)I" } : Jvm.MethodName)) ∈ gw := gw_11 51 rfl rfl
theorem wr_11_54 : (Jvm.Cond.code ({ cls := "SpillForgeModel", name := "next", desc := "(I)I" } : Jvm.MethodName) prog_14_method_20_code (7 : Nat) (Option.some Jvm.ClassFile.FieldType.int)) ∈ gw := gw_11 54 rfl rfl
theorem wr_11_53 : (Jvm.Cond.instanceMethod ({ cls := "SpillForgeModel", name := "next", desc := "(I)I" } : Jvm.MethodName)) ∈ gw := gw_11 53 rfl rfl
theorem wr_p_107 : Cond.selects "SpillForgeModel" ⟨"SpillForgeModel", "next", "(I)I"⟩ ⟨"SpillForgeModel", "next", "(I)I"⟩ ∈ gw := gw_p _ 107 rfl rfl rfl
theorem dr_cX17_colours_69 : decode cX17_colours 69 = .ok (.istore_n 3, 1) := by decide +kernel
theorem dr_cX17_colours_70 : decode cX17_colours 70 = .ok (.iload_n 3, 1) := by decide +kernel
theorem dr_cX17_colours_71 : decode cX17_colours 71 = .ok (.ifCond .lt 71, 3) := by decide +kernel
theorem dr_cX17_colours_142 : decode cX17_colours 142 = .ok (.iconst 0, 1) := by decide +kernel
theorem dr_cX17_colours_143 : decode cX17_colours 143 = .ok (.istore_n 3, 1) := by decide +kernel
theorem dr_cX17_colours_144 : decode cX17_colours 144 = .ok (.iload_n 2, 1) := by decide +kernel
theorem dr_cX17_colours_145 : decode cX17_colours 145 = .ok (.ifCond .le 108, 3) := by decide +kernel
theorem dr_cX17_colours_253 : decode cX17_colours 253 = .ok (.iload_n 3, 1) := by decide +kernel
theorem dr_cX17_colours_254 : decode cX17_colours 254 = .ok (.ireturn, 1) := by decide +kernel
theorem dr_cX17_colours_148 : decode cX17_colours 148 = .ok (.iinc 2 (-1), 3) := by decide +kernel
theorem dr_cX17_colours_151 : decode cX17_colours 151 = .ok (.aload_n 0, 1) := by decide +kernel
theorem dr_cX17_colours_152 : decode cX17_colours 152 = .ok (.getfield 218, 3) := by decide +kernel
theorem wr_7_89 : (Jvm.Cond.fieldLink "SpillForgeModel" (218 : Nat) "SpillForgeModel" "pile" "[I") ∈ gw := gw_7 89 rfl rfl
theorem dr_cX17_colours_155 : decode cX17_colours 155 = .ok (.iload_n 2, 1) := by decide +kernel
theorem dr_cX17_colours_156 : decode cX17_colours 156 = .ok (.iaload, 1) := by decide +kernel
theorem dr_cX17_colours_157 : decode cX17_colours 157 = .ok (.istore 4, 2) := by decide +kernel
theorem dr_cX17_colours_159 : decode cX17_colours 159 = .ok (.lconst 0, 1) := by decide +kernel
theorem dr_cX17_colours_160 : decode cX17_colours 160 = .ok (.lstore 5, 2) := by decide +kernel
theorem dr_cX17_colours_162 : decode cX17_colours 162 = .ok (.iconst 0, 1) := by decide +kernel
theorem dr_cX17_colours_163 : decode cX17_colours 163 = .ok (.istore 7, 2) := by decide +kernel
theorem dr_cX17_colours_165 : decode cX17_colours 165 = .ok (.iload 7, 2) := by decide +kernel
theorem dr_cX17_colours_167 : decode cX17_colours 167 = .ok (.sipush 2000, 3) := by decide +kernel
theorem dr_cX17_colours_170 : decode cX17_colours 170 = .ok (.if_icmp .ge 48, 3) := by decide +kernel
theorem dr_cX17_colours_218 : decode cX17_colours 218 = .ok (.lload 5, 2) := by decide +kernel
theorem dr_cX17_colours_220 : decode cX17_colours 220 = .ok (.ldc2_w 31, 3) := by decide +kernel
theorem dr_cX17_colours_223 : decode cX17_colours 223 = .ok (.lxor, 1) := by decide +kernel
theorem dr_cX17_colours_224 : decode cX17_colours 224 = .ok (.invokestatic 149, 3) := by decide +kernel
theorem dr_cX17_colours_227 : decode cX17_colours 227 = .ok (.istore 7, 2) := by decide +kernel
theorem dr_cX17_colours_229 : decode cX17_colours 229 = .ok (.iload 7, 2) := by decide +kernel
theorem dr_cX17_colours_231 : decode cX17_colours 231 = .ok (.iload_n 1, 1) := by decide +kernel
theorem dr_cX17_colours_232 : decode cX17_colours 232 = .ok (.if_icmp .ge 15, 3) := by decide +kernel
theorem dr_cX17_colours_247 : decode cX17_colours 247 = .ok (.iinc 3 1, 3) := by decide +kernel
theorem dr_cX17_colours_250 : decode cX17_colours 250 = .ok (.goto (-106), 3) := by decide +kernel
theorem dr_cX17_colours_235 : decode cX17_colours 235 = .ok (.aload_n 0, 1) := by decide +kernel
theorem dr_cX17_colours_236 : decode cX17_colours 236 = .ok (.getfield 212, 3) := by decide +kernel
theorem wr_7_91 : (Jvm.Cond.fieldLink "SpillForgeModel" (212 : Nat) "SpillForgeModel" "colour" "[I") ∈ gw := gw_7 91 rfl rfl
theorem dr_cX17_colours_239 : decode cX17_colours 239 = .ok (.iload 4, 2) := by decide +kernel
theorem dr_cX17_colours_241 : decode cX17_colours 241 = .ok (.iload 7, 2) := by decide +kernel
theorem dr_cX17_colours_243 : decode cX17_colours 243 = .ok (.iastore, 1) := by decide +kernel
theorem dr_cX17_colours_244 : decode cX17_colours 244 = .ok (.goto 6, 3) := by decide +kernel
theorem dr_cX17_colours_173 : decode cX17_colours 173 = .ok (.aload_n 0, 1) := by decide +kernel
theorem dr_cX17_colours_174 : decode cX17_colours 174 = .ok (.getfield 212, 3) := by decide +kernel
theorem dr_cX17_colours_177 : decode cX17_colours 177 = .ok (.iload 7, 2) := by decide +kernel
theorem dr_cX17_colours_179 : decode cX17_colours 179 = .ok (.iaload, 1) := by decide +kernel
theorem dr_cX17_colours_180 : decode cX17_colours 180 = .ok (.ifCond .lt 32, 3) := by decide +kernel
theorem dr_cX17_colours_212 : decode cX17_colours 212 = .ok (.iinc 7 1, 3) := by decide +kernel
theorem dr_cX17_colours_215 : decode cX17_colours 215 = .ok (.goto (-50), 3) := by decide +kernel
theorem dr_cX17_colours_183 : decode cX17_colours 183 = .ok (.aload_n 0, 1) := by decide +kernel
theorem dr_cX17_colours_184 : decode cX17_colours 184 = .ok (.getfield 135, 3) := by decide +kernel
theorem dr_cX17_colours_187 : decode cX17_colours 187 = .ok (.iload 4, 2) := by decide +kernel
theorem dr_cX17_colours_189 : decode cX17_colours 189 = .ok (.aaload, 1) := by decide +kernel
theorem dr_cX17_colours_190 : decode cX17_colours 190 = .ok (.iload 7, 2) := by decide +kernel
theorem dr_cX17_colours_192 : decode cX17_colours 192 = .ok (.invokestatic 145, 3) := by decide +kernel
theorem dr_cX17_colours_195 : decode cX17_colours 195 = .ok (.ifCond .eq 17, 3) := by decide +kernel
theorem dr_cX17_colours_198 : decode cX17_colours 198 = .ok (.lload 5, 2) := by decide +kernel
theorem dr_cX17_colours_200 : decode cX17_colours 200 = .ok (.lconst 1, 1) := by decide +kernel
theorem dr_cX17_colours_201 : decode cX17_colours 201 = .ok (.aload_n 0, 1) := by decide +kernel
theorem dr_cX17_colours_202 : decode cX17_colours 202 = .ok (.getfield 212, 3) := by decide +kernel
theorem dr_cX17_colours_205 : decode cX17_colours 205 = .ok (.iload 7, 2) := by decide +kernel
theorem dr_cX17_colours_207 : decode cX17_colours 207 = .ok (.iaload, 1) := by decide +kernel
theorem dr_cX17_colours_208 : decode cX17_colours 208 = .ok (.lshl, 1) := by decide +kernel
theorem dr_cX17_colours_209 : decode cX17_colours 209 = .ok (.lor, 1) := by decide +kernel
theorem dr_cX17_colours_210 : decode cX17_colours 210 = .ok (.lstore 5, 2) := by decide +kernel
theorem dr_cX17_colours_74 : decode cX17_colours 74 = .ok (.aload_n 0, 1) := by decide +kernel
theorem dr_cX17_colours_75 : decode cX17_colours 75 = .ok (.getfield 218, 3) := by decide +kernel
theorem dr_cX17_colours_78 : decode cX17_colours 78 = .ok (.iload_n 2, 1) := by decide +kernel
theorem dr_cX17_colours_79 : decode cX17_colours 79 = .ok (.iload_n 3, 1) := by decide +kernel
theorem dr_cX17_colours_80 : decode cX17_colours 80 = .ok (.iastore, 1) := by decide +kernel
theorem dr_cX17_colours_81 : decode cX17_colours 81 = .ok (.iinc 2 1, 3) := by decide +kernel
theorem dr_cX17_colours_84 : decode cX17_colours 84 = .ok (.aload_n 0, 1) := by decide +kernel
theorem dr_cX17_colours_85 : decode cX17_colours 85 = .ok (.getfield 206, 3) := by decide +kernel
theorem dr_cX17_colours_88 : decode cX17_colours 88 = .ok (.iload_n 3, 1) := by decide +kernel
theorem dr_cX17_colours_89 : decode cX17_colours 89 = .ok (.iconst 0, 1) := by decide +kernel
theorem dr_cX17_colours_90 : decode cX17_colours 90 = .ok (.bastore, 1) := by decide +kernel
theorem dr_cX17_colours_91 : decode cX17_colours 91 = .ok (.iconst 0, 1) := by decide +kernel
theorem dr_cX17_colours_92 : decode cX17_colours 92 = .ok (.istore 4, 2) := by decide +kernel
theorem dr_cX17_colours_94 : decode cX17_colours 94 = .ok (.iload 4, 2) := by decide +kernel
theorem dr_cX17_colours_96 : decode cX17_colours 96 = .ok (.sipush 2000, 3) := by decide +kernel
theorem dr_cX17_colours_99 : decode cX17_colours 99 = .ok (.if_icmp .ge 34, 3) := by decide +kernel
theorem dr_cX17_colours_133 : decode cX17_colours 133 = .ok (.aload_n 0, 1) := by decide +kernel
theorem dr_cX17_colours_134 : decode cX17_colours 134 = .ok (.iload_n 1, 1) := by decide +kernel
theorem dr_cX17_colours_135 : decode cX17_colours 135 = .ok (.invokevirtual 215, 3) := by decide +kernel
theorem dr_cX17_colours_138 : decode cX17_colours 138 = .ok (.istore_n 3, 1) := by decide +kernel
theorem dr_cX17_colours_139 : decode cX17_colours 139 = .ok (.goto (-69), 3) := by decide +kernel
theorem dr_cX17_colours_102 : decode cX17_colours 102 = .ok (.aload_n 0, 1) := by decide +kernel
theorem dr_cX17_colours_103 : decode cX17_colours 103 = .ok (.getfield 135, 3) := by decide +kernel
theorem dr_cX17_colours_106 : decode cX17_colours 106 = .ok (.iload_n 3, 1) := by decide +kernel
theorem dr_cX17_colours_107 : decode cX17_colours 107 = .ok (.aaload, 1) := by decide +kernel
theorem dr_cX17_colours_108 : decode cX17_colours 108 = .ok (.iload 4, 2) := by decide +kernel
theorem dr_cX17_colours_110 : decode cX17_colours 110 = .ok (.invokestatic 145, 3) := by decide +kernel
theorem dr_cX17_colours_113 : decode cX17_colours 113 = .ok (.ifCond .eq 14, 3) := by decide +kernel
theorem dr_cX17_colours_127 : decode cX17_colours 127 = .ok (.iinc 4 1, 3) := by decide +kernel
theorem dr_cX17_colours_130 : decode cX17_colours 130 = .ok (.goto (-36), 3) := by decide +kernel
theorem dr_cX17_colours_116 : decode cX17_colours 116 = .ok (.aload_n 0, 1) := by decide +kernel
theorem dr_cX17_colours_117 : decode cX17_colours 117 = .ok (.getfield 209, 3) := by decide +kernel
theorem dr_cX17_colours_120 : decode cX17_colours 120 = .ok (.iload 4, 2) := by decide +kernel
theorem dr_cX17_colours_122 : decode cX17_colours 122 = .ok (.dup2, 1) := by decide +kernel
theorem dr_cX17_colours_123 : decode cX17_colours 123 = .ok (.iaload, 1) := by decide +kernel
theorem dr_cX17_colours_124 : decode cX17_colours 124 = .ok (.iconst 1, 1) := by decide +kernel
theorem dr_cX17_colours_125 : decode cX17_colours 125 = .ok (.isub, 1) := by decide +kernel
theorem dr_cX17_colours_126 : decode cX17_colours 126 = .ok (.iastore, 1) := by decide +kernel
theorem dr_cX17_colours_9 : decode cX17_colours 9 = .ok (.aload_n 0, 1) := by decide +kernel
theorem dr_cX17_colours_10 : decode cX17_colours 10 = .ok (.getfield 206, 3) := by decide +kernel
theorem dr_cX17_colours_13 : decode cX17_colours 13 = .ok (.iload_n 2, 1) := by decide +kernel
theorem dr_cX17_colours_14 : decode cX17_colours 14 = .ok (.aload_n 0, 1) := by decide +kernel
theorem dr_cX17_colours_15 : decode cX17_colours 15 = .ok (.getfield 131, 3) := by decide +kernel
theorem dr_cX17_colours_18 : decode cX17_colours 18 = .ok (.iload_n 2, 1) := by decide +kernel
theorem dr_cX17_colours_19 : decode cX17_colours 19 = .ok (.baload, 1) := by decide +kernel
theorem dr_cX17_colours_20 : decode cX17_colours 20 = .ok (.bastore, 1) := by decide +kernel
theorem dr_cX17_colours_21 : decode cX17_colours 21 = .ok (.aload_n 0, 1) := by decide +kernel
theorem dr_cX17_colours_22 : decode cX17_colours 22 = .ok (.getfield 209, 3) := by decide +kernel
theorem dr_cX17_colours_25 : decode cX17_colours 25 = .ok (.iload_n 2, 1) := by decide +kernel
theorem dr_cX17_colours_26 : decode cX17_colours 26 = .ok (.aload_n 0, 1) := by decide +kernel
theorem dr_cX17_colours_27 : decode cX17_colours 27 = .ok (.getfield 131, 3) := by decide +kernel
theorem dr_cX17_colours_30 : decode cX17_colours 30 = .ok (.iload_n 2, 1) := by decide +kernel
theorem dr_cX17_colours_31 : decode cX17_colours 31 = .ok (.baload, 1) := by decide +kernel
theorem dr_cX17_colours_32 : decode cX17_colours 32 = .ok (.ifCond .eq 15, 3) := by decide +kernel
theorem dr_cX17_colours_47 : decode cX17_colours 47 = .ok (.iconst 0, 1) := by decide +kernel
theorem dr_cX17_colours_48 : decode cX17_colours 48 = .ok (.iastore, 1) := by decide +kernel
theorem dr_cX17_colours_49 : decode cX17_colours 49 = .ok (.aload_n 0, 1) := by decide +kernel
theorem dr_cX17_colours_50 : decode cX17_colours 50 = .ok (.getfield 212, 3) := by decide +kernel
theorem dr_cX17_colours_53 : decode cX17_colours 53 = .ok (.iload_n 2, 1) := by decide +kernel
theorem dr_cX17_colours_54 : decode cX17_colours 54 = .ok (.iconst (-1), 1) := by decide +kernel
theorem dr_cX17_colours_55 : decode cX17_colours 55 = .ok (.iastore, 1) := by decide +kernel
theorem dr_cX17_colours_56 : decode cX17_colours 56 = .ok (.iinc 2 1, 3) := by decide +kernel
theorem dr_cX17_colours_59 : decode cX17_colours 59 = .ok (.goto (-57), 3) := by decide +kernel
theorem dr_cX17_colours_35 : decode cX17_colours 35 = .ok (.aload_n 0, 1) := by decide +kernel
theorem dr_cX17_colours_36 : decode cX17_colours 36 = .ok (.getfield 135, 3) := by decide +kernel
theorem dr_cX17_colours_39 : decode cX17_colours 39 = .ok (.iload_n 2, 1) := by decide +kernel
theorem dr_cX17_colours_40 : decode cX17_colours 40 = .ok (.aaload, 1) := by decide +kernel
theorem dr_cX17_colours_41 : decode cX17_colours 41 = .ok (.invokestatic 202, 3) := by decide +kernel
theorem dr_cX17_colours_44 : decode cX17_colours 44 = .ok (.goto 4, 3) := by decide +kernel
abbrev ky_335892_SpillForgeModel_next : gKey := (cX17_next, 7, "SpillForgeModel", (some FieldType.int), [], "next", fun _ _ => True)
def pt_335892_SpillForgeModel_next (D : va_G) (I : FieldType → ClassId) (γ el : Nat → Nat → Nat) (P335888 : List Nat) (F335889 : Nat → va_E) (q335890 : Nat) (p335891 : Int32) : Option Value → va_W → Nat → Nat → Prop := fun r w dc ds => ∃ (o336598 : Int32), r = some (.int o336598) ∧ w = va_pl P335888 F335889 ∧ dc ≤ 0 ∧ ds ≤ 0 ∧ gB o336598 (-1) 1999 ∧ (gIp (0 ≤ o336598.toInt) (rSd (cB (F335889 (γ 9 18))) (o336598.toInt : Int).toNat)) ∧ (gIp (o336598.toInt < 0) (∀ m : Nat, ¬ rSd (cB (F335889 (γ 9 18))) m))
set_option maxRecDepth 100000 in
set_option maxHeartbeats 4000000 in
theorem ct_335892_SpillForgeModel_next (l : Launch) (hl0 : l.stackTraces = false) (D : va_G) (I : FieldType → ClassId) (γ el : Nat → Nat → Nat) (P335888 : List Nat) (F335889 : Nat → va_E) (q335890 : Nat) (p335891 : Int32) (hT : RS D I P335888 F335889 γ el) (htq335890 : rKd γ q335890 10) : CtA (gV D I) l yX17_next cX17_next 7 (some FieldType.int) 0 0 0 0 [.ref q335890, .int p335891] (va_pl P335888 F335889) (pt_335892_SpillForgeModel_next D I γ el P335888 F335889 q335890 p335891) gNA := by
  refine CtA_of hl0 (by decide) (Nat.le_of_ble_eq_true rfl) ?_
  have bp335891 := gB_any p335891
  have hm335893 : q335890 ∈ P335888 := RS_m hT htq335890 (by decide)
  obtain ⟨q335895, q335896, p335897, p335898, p335899, p335900, p335901, p335902, p335903, p335904, p335905, p335906, p335907, p335908, p335909, p335910, p335911, he335894, hB335938, ht335912, ht335913, ht335914, ht335915, ht335916, ht335917, ht335918, ht335919, ht335920, ht335921, ht335922, ht335923, ht335924, ht335925, ht335926, ht335927, ht335928, ht335929, ht335930, ht335931, ht335932, ht335933, ht335934, ht335935, hB335939⟩ := show rk_10 γ (F335889 q335890) from RS_o hT htq335890
  have hm335940 : (γ 9 18) ∈ P335888 := RS_m hT ht335926 (by decide)
  obtain ⟨f335942, he335941, bf335942⟩ := show rk_15 I (F335889 (γ 9 18)) from RS_o hT ht335926
  refine G_iconst 0 dr_cX17_next_0 (by decide +kernel) ?_
  refine G_istore_n (L' := [(2, .int 0), (0, .ref q335890), (1, .int p335891)]) dr_cX17_next_1 (Nat.le_of_ble_eq_true rfl) rfl ?_
  have hlp2_336397 : ∀ (n2_336397 : Nat) (g336397 : Int32), gB g336397 0 2000 → ((2001 : Int) - g336397.toInt).toNat < n2_336397 → G (gV D I) l (gRm 0 0 0 0) (gMA (gV D I) (pt_335892_SpillForgeModel_next D I γ el P335888 F335889 q335890 p335891) gNA 0 0) ky_335892_SpillForgeModel_next 2 [(2, .int g336397), (0, .ref q335890), (1, .int p335891)] [] (va_pl P335888 F335889) 0 0 := by
    intro n2_336397
    induction n2_336397 with
    | zero => intro g336397 bg336397 hm2_336397; exact absurd hm2_336397 (Nat.not_lt_zero _)
    | succ n2_336397 ih2_336397 =>
      intro g336397 bg336397 hm2_336397
      refine G_iload_n 0 dr_cX17_next_2 rfl ?_
      refine G_sipush 2000 dr_cX17_next_3 (by decide +kernel) ?_
      refine G_icmp_ge 36 dr_cX17_next_6 (by decide +kernel) (fun hc336399 => ?_) (fun hc336399 => ?_)
      · have r336400 : 2000 ≤ g336397.toInt := gj_leL hc336399 (show Int32.toInt 2000 = 2000 by decide)
        have bg336397' : gB g336397 2000 2000 := ⟨by omega, by omega⟩
        refine G_iconst (-1) dr_cX17_next_36 (by decide +kernel) ?_
        refine G_istore_n (L' := [(2, .int (-1)), (0, .ref q335890), (1, .int p335891)]) dr_cX17_next_37 (Nat.le_of_ble_eq_true rfl) rfl ?_
        refine G_iconst 0 dr_cX17_next_38 (by decide +kernel) ?_
        refine G_istore_n (L' := [(3, .int 0), (2, .int (-1)), (0, .ref q335890), (1, .int p335891)]) dr_cX17_next_39 (Nat.le_of_ble_eq_true rfl) rfl ?_
        have hlp40_336494 : ∀ (n40_336494 : Nat) (g336491 : Int32) (g336492 : Int32), gB g336491 0 2000 → gB g336492 (-1) 1999 → (gIp (g336492.toInt < 0) (∀ m : Nat, (m : Int) < g336491.toInt → ¬ rSd (cB (F335889 (γ 9 18))) m)) → (gIp (0 ≤ g336492.toInt) (rSd (cB (F335889 (γ 9 18))) (g336492.toInt : Int).toNat)) → ((2001 : Int) - g336491.toInt).toNat < n40_336494 → G (gV D I) l (gRm 0 0 0 0) (gMA (gV D I) (pt_335892_SpillForgeModel_next D I γ el P335888 F335889 q335890 p335891) gNA 0 0) ky_335892_SpillForgeModel_next 40 [(3, .int g336491), (2, .int g336492), (0, .ref q335890), (1, .int p335891)] [] (va_pl P335888 F335889) 0 0 := by
          intro n40_336494
          induction n40_336494 with
          | zero => intro g336491 g336492 bg336491 bg336492 x336493 x336494 hm40_336494; exact absurd hm40_336494 (Nat.not_lt_zero _)
          | succ n40_336494 ih40_336494 =>
            intro g336491 g336492 bg336491 bg336492 x336493 x336494 hm40_336494
            refine G_iload_n 0 dr_cX17_next_40 rfl ?_
            refine G_sipush 2000 dr_cX17_next_41 (by decide +kernel) ?_
            refine G_icmp_ge 171 dr_cX17_next_44 (by decide +kernel) (fun hc336496 => ?_) (fun hc336496 => ?_)
            · have r336497 : 2000 ≤ g336491.toInt := gj_leL hc336496 (show Int32.toInt 2000 = 2000 by decide)
              have bg336491' : gB g336491 2000 2000 := ⟨by omega, by omega⟩
              refine G_iload_n 1 dr_cX17_next_171 rfl ?_
              exact G_iretA dr_cX17_next_172 rfl (Nat.le_of_ble_eq_true rfl) (Nat.le_of_ble_eq_true rfl) ⟨g336492, rfl, rfl, (Nat.le_of_ble_eq_true rfl), (Nat.le_of_ble_eq_true rfl), bg336492, x336494, (fun h m hm => x336493 h m (by have := hm.1; omega) hm)⟩
            · have r336498 : g336491.toInt < 2000 := gj_nleL hc336496 (show Int32.toInt 2000 = 2000 by decide)
              have bg336491' : gB g336491 0 1999 := ⟨by omega, by omega⟩
              refine G_aload_n 2 dr_cX17_next_47 rfl ?_
              refine Gp_get 18 hm335893 he335894 dr_cX17_next_48 (gk_X17 D I) (Nat.le_of_ble_eq_true rfl) wr_7_92 rfl ?_
              refine G_iload_n 0 dr_cX17_next_51 rfl ?_
              refine Gp_zald 3 hm335940 he335941 dr_cX17_next_52 rfl (gB_in bg336491' (by decide) (by decide)) (G_nam fun z336499 hz336499 => ?_)
              have bz336499 : gB z336499 0 1 := by rw [hz336499]; exact bf335942 _
              refine G_if_ne 59 dr_cX17_next_53 (by decide +kernel) (fun hc336500 => ?_) (fun hc336500 => ?_)
              · have r336501 : z336499.toInt ≠ 0 := gj_neq hc336500 (show Int32.toInt 0 = 0 by decide)
                have bz336499' : gB z336499 1 1 := ⟨by omega, by omega⟩
                refine G_iload_n 1 dr_cX17_next_59 rfl ?_
                refine G_if_ge 68 dr_cX17_next_60 (by decide +kernel) (fun hc336502 => ?_) (fun hc336502 => ?_)
                · have r336503 : 0 ≤ g336492.toInt := gj_leL hc336502 (show Int32.toInt 0 = 0 by decide)
                  have bg336492' : gB g336492 0 1999 := ⟨by omega, by omega⟩
                  refine G_iload_n 0 dr_cX17_next_68 rfl ?_
                  refine G_bipush 100 dr_cX17_next_69 (by decide +kernel) ?_
                  refine G_icmp_lt 78 dr_cX17_next_71 (by decide +kernel) (fun hc336504 => ?_) (fun hc336504 => ?_)
                  · have r336505 : g336491.toInt < 100 := gj_lt hc336504 (show Int32.toInt 100 = 100 by decide)
                    have bg336491'' : gB g336491 0 99 := ⟨by omega, by omega⟩
                    refine G_iconst 0 dr_cX17_next_78 (by decide +kernel) ?_
                    refine G_istore (L' := [(4, .int 0), (3, .int g336491), (2, .int g336492), (0, .ref q335890), (1, .int p335891)]) dr_cX17_next_79 (Nat.le_of_ble_eq_true rfl) rfl ?_
                    refine G_iload_n 2 dr_cX17_next_81 rfl ?_
                    refine G_bipush 100 dr_cX17_next_82 (by decide +kernel) ?_
                    refine G_icmp_lt 91 dr_cX17_next_84 (by decide +kernel) (fun hc336506 => ?_) (fun hc336506 => ?_)
                    · have r336507 : g336492.toInt < 100 := gj_lt hc336506 (show Int32.toInt 100 = 100 by decide)
                      have bg336492'' : gB g336492 0 99 := ⟨by omega, by omega⟩
                      refine G_iconst 0 dr_cX17_next_91 (by decide +kernel) ?_
                      refine G_istore (L' := [(5, .int 0), (4, .int 0), (3, .int g336491), (2, .int g336492), (0, .ref q335890), (1, .int p335891)]) dr_cX17_next_92 (Nat.le_of_ble_eq_true rfl) rfl ?_
                      refine G_iload 1 dr_cX17_next_94 rfl ?_
                      refine G_if_eq 107 dr_cX17_next_96 (by decide +kernel) (fun _ => ?_) (fun hc => absurd hc (by decide))
                      refine G_aload_n 4 dr_cX17_next_107 rfl ?_
                      refine Gp_get 5 hm335893 he335894 dr_cX17_next_108 (gk_X17 D I) (Nat.le_of_ble_eq_true rfl) wr_7_79 rfl ?_
                      refine G_iload_n 2 dr_cX17_next_111 rfl ?_
                      have hm336508 : (γ 9 5) ∈ P335888 := RS_m hT ht335919 (by decide)
                      obtain ⟨f336510, he336509⟩ := show rk_17 I (F335889 (γ 9 5)) from RS_o hT ht335919
                      refine Gp_iald 0 hm336508 he336509 dr_cX17_next_112 rfl (gB_in bg336491'' (by decide) (by decide)) (G_nam fun z336511 hz336511 => ?_)
                      have bz336511 : gB z336511 (-2147483648) 2147483647 := gB_any z336511
                      refine G_i2l dr_cX17_next_113 (G_namL fun u336512 hu336512 => ?_)
                      refine G_aload_n 4 dr_cX17_next_114 rfl ?_
                      refine Gp_get 16 hm335893 he335894 dr_cX17_next_115 (gk_X17 D I) (Nat.le_of_ble_eq_true rfl) wr_7_90 rfl ?_
                      refine G_iload_n 3 dr_cX17_next_118 rfl ?_
                      have hm336513 : (γ 9 16) ∈ P335888 := RS_m hT ht335924 (by decide)
                      obtain ⟨f336515, he336514⟩ := show rk_19 I (F335889 (γ 9 16)) from RS_o hT ht335924
                      refine Gp_iald 0 hm336513 he336514 dr_cX17_next_119 rfl (gB_in bg336492'' (by decide) (by decide)) (G_nam fun z336516 hz336516 => ?_)
                      have bz336516 : gB z336516 (-2147483648) 2147483647 := gB_any z336516
                      refine G_i2l dr_cX17_next_120 (G_namL fun u336517 hu336517 => ?_)
                      refine G_lmul dr_cX17_next_121 (G_namL fun u336518 hu336518 => ?_)
                      refine G_aload_n 4 dr_cX17_next_122 rfl ?_
                      refine Gp_get 5 hm335893 he335894 dr_cX17_next_123 (gk_X17 D I) (Nat.le_of_ble_eq_true rfl) wr_7_79 rfl ?_
                      refine G_iload_n 3 dr_cX17_next_126 rfl ?_
                      refine Gp_iald 0 hm336508 he336509 dr_cX17_next_127 rfl (gB_in bg336492'' (by decide) (by decide)) (G_nam fun z336519 hz336519 => ?_)
                      have bz336519 : gB z336519 (-2147483648) 2147483647 := gB_any z336519
                      refine G_i2l dr_cX17_next_128 (G_namL fun u336520 hu336520 => ?_)
                      refine G_aload_n 4 dr_cX17_next_129 rfl ?_
                      refine Gp_get 16 hm335893 he335894 dr_cX17_next_130 (gk_X17 D I) (Nat.le_of_ble_eq_true rfl) wr_7_90 rfl ?_
                      refine G_iload_n 2 dr_cX17_next_133 rfl ?_
                      refine Gp_iald 0 hm336513 he336514 dr_cX17_next_134 rfl (gB_in bg336491'' (by decide) (by decide)) (G_nam fun z336521 hz336521 => ?_)
                      have bz336521 : gB z336521 (-2147483648) 2147483647 := gB_any z336521
                      refine G_i2l dr_cX17_next_135 (G_namL fun u336522 hu336522 => ?_)
                      refine G_lmul dr_cX17_next_136 (G_namL fun u336523 hu336523 => ?_)
                      refine G_lcmp dr_cX17_next_137 (G_nam fun z336524 hz336524 => ?_)
                      have bz336524 : gB z336524 (-1) 1 := gB_cmp hz336524
                      refine G_if_ge 145 dr_cX17_next_138 (by decide +kernel) (fun hc336525 => ?_) (fun hc336525 => ?_)
                      · have r336526 : 0 ≤ z336524.toInt := gj_leL hc336525 (show Int32.toInt 0 = 0 by decide)
                        have bz336524' : gB z336524 0 1 := ⟨by omega, by omega⟩
                        refine G_iconst 0 dr_cX17_next_145 (by decide +kernel) ?_
                        refine G_istore (L' := [(6, .int 0), (5, .int 0), (4, .int 0), (3, .int g336491), (2, .int g336492), (0, .ref q335890), (1, .int p335891)]) dr_cX17_next_146 (Nat.le_of_ble_eq_true rfl) rfl ?_
                        refine G_iload 2 dr_cX17_next_148 rfl ?_
                        refine G_if_ne 158 dr_cX17_next_150 (by decide +kernel) (fun hc => absurd hc (by decide)) (fun _ => ?_)
                        refine G_iload 1 dr_cX17_next_153 rfl ?_
                        refine G_if_ne 163 dr_cX17_next_155 (by decide +kernel) (fun hc => absurd hc (by decide)) (fun _ => ?_)
                        refine G_iload 0 dr_cX17_next_158 rfl ?_
                        refine G_if_eq 165 dr_cX17_next_160 (by decide +kernel) (fun _ => ?_) (fun hc => absurd hc (by decide))
                        obtain ⟨z336527, hz336527⟩ : ∃ z : Int32, z = g336491 + Int32.ofInt 1 := ⟨_, rfl⟩
                        have ez336527 : z336527.toInt = g336491.toInt + 1 := gI_inc hz336527 (by decide) bg336491'' (by decide) (by decide)
                        have bz336527 : gB z336527 1 100 := ⟨by omega, by omega⟩
                        refine G_iinc (L' := [(3, .int z336527), (6, .int 0), (5, .int 0), (4, .int 0), (2, .int g336492), (0, .ref q335890), (1, .int p335891)]) z336527 3 dr_cX17_next_165 rfl hz336527.symm (Nat.le_of_ble_eq_true rfl) rfl ?_
                        refine G_goto 40 dr_cX17_next_168 (by decide +kernel) ?_
                        refine G_lv (L' := [(3, .int z336527), (2, .int g336492), (0, .ref q335890), (1, .int p335891)]) [0, 4, 5, 6] rfl ?_
                        exact ih40_336494 z336527 g336492 (gB_w bz336527 (by decide) (by decide)) (gB_w bg336492'' (by decide) (by decide)) (by first | exact fun h => absurd h (by omega) | exact fun h => (by rw [ez336527]; rw [cB_of he335941]; have q := x336493; rw [cB_of he335941] at q; exact nx_0 (q h) hz336499 (by omega) rfl)) x336494 (by omega)
                      · have r336528 : z336524.toInt < 0 := gj_nleL hc336525 (show Int32.toInt 0 = 0 by decide)
                        have bz336524' : gB z336524 (-1) (-1) := ⟨by omega, by omega⟩
                        have lhc336525 := gC_cmpS hz336524 (by omega)
                        refine G_iconst 1 dr_cX17_next_141 (by decide +kernel) ?_
                        refine G_goto 146 dr_cX17_next_142 (by decide +kernel) ?_
                        refine G_istore (L' := [(6, .int 1), (5, .int 0), (4, .int 0), (3, .int g336491), (2, .int g336492), (0, .ref q335890), (1, .int p335891)]) dr_cX17_next_146 (Nat.le_of_ble_eq_true rfl) rfl ?_
                        refine G_iload 2 dr_cX17_next_148 rfl ?_
                        refine G_if_ne 158 dr_cX17_next_150 (by decide +kernel) (fun hc => absurd hc (by decide)) (fun _ => ?_)
                        refine G_iload 1 dr_cX17_next_153 rfl ?_
                        refine G_if_ne 163 dr_cX17_next_155 (by decide +kernel) (fun hc => absurd hc (by decide)) (fun _ => ?_)
                        refine G_iload 0 dr_cX17_next_158 rfl ?_
                        refine G_if_eq 165 dr_cX17_next_160 (by decide +kernel) (fun hc => absurd hc (by decide)) (fun _ => ?_)
                        refine G_iload_n 3 dr_cX17_next_163 rfl ?_
                        refine G_istore_n (L' := [(2, .int g336491), (6, .int 1), (5, .int 0), (4, .int 0), (3, .int g336491), (0, .ref q335890), (1, .int p335891)]) dr_cX17_next_164 (Nat.le_of_ble_eq_true rfl) rfl ?_
                        obtain ⟨z336529, hz336529⟩ : ∃ z : Int32, z = g336491 + Int32.ofInt 1 := ⟨_, rfl⟩
                        have ez336529 : z336529.toInt = g336491.toInt + 1 := gI_inc hz336529 (by decide) bg336491'' (by decide) (by decide)
                        have bz336529 : gB z336529 1 100 := ⟨by omega, by omega⟩
                        refine G_iinc (L' := [(3, .int z336529), (2, .int g336491), (6, .int 1), (5, .int 0), (4, .int 0), (0, .ref q335890), (1, .int p335891)]) z336529 4 dr_cX17_next_165 rfl hz336529.symm (Nat.le_of_ble_eq_true rfl) rfl ?_
                        refine G_goto 40 dr_cX17_next_168 (by decide +kernel) ?_
                        refine G_lv (L' := [(3, .int z336529), (2, .int g336491), (0, .ref q335890), (1, .int p335891)]) [0, 1, 5, 6] rfl ?_
                        exact ih40_336494 z336529 g336491 (gB_w bz336529 (by decide) (by decide)) (gB_w bg336491'' (by decide) (by decide)) (by first | exact fun h => absurd h (by omega) | exact fun h => (by rw [ez336529]; rw [cB_of he335941]; have q := x336493; rw [cB_of he335941] at q; exact nx_0 (q h) hz336499 (by omega) rfl)) (fun _ => by rw [cB_of he335941]; exact sd_of hz336499 (by omega) (by omega) (by omega)) (by omega)
                    · have r336530 : 100 ≤ g336492.toInt := gj_nlt hc336506 (show Int32.toInt 100 = 100 by decide)
                      have bg336492'' : gB g336492 100 1999 := ⟨by omega, by omega⟩
                      refine G_iconst 1 dr_cX17_next_87 (by decide +kernel) ?_
                      refine G_goto 92 dr_cX17_next_88 (by decide +kernel) ?_
                      refine G_istore (L' := [(5, .int 1), (4, .int 0), (3, .int g336491), (2, .int g336492), (0, .ref q335890), (1, .int p335891)]) dr_cX17_next_92 (Nat.le_of_ble_eq_true rfl) rfl ?_
                      refine G_iload 1 dr_cX17_next_94 rfl ?_
                      refine G_if_eq 107 dr_cX17_next_96 (by decide +kernel) (fun _ => ?_) (fun hc => absurd hc (by decide))
                      refine G_aload_n 4 dr_cX17_next_107 rfl ?_
                      refine Gp_get 5 hm335893 he335894 dr_cX17_next_108 (gk_X17 D I) (Nat.le_of_ble_eq_true rfl) wr_7_79 rfl ?_
                      refine G_iload_n 2 dr_cX17_next_111 rfl ?_
                      have hm336531 : (γ 9 5) ∈ P335888 := RS_m hT ht335919 (by decide)
                      obtain ⟨f336533, he336532⟩ := show rk_17 I (F335889 (γ 9 5)) from RS_o hT ht335919
                      refine Gp_iald 0 hm336531 he336532 dr_cX17_next_112 rfl (gB_in bg336491'' (by decide) (by decide)) (G_nam fun z336534 hz336534 => ?_)
                      have bz336534 : gB z336534 (-2147483648) 2147483647 := gB_any z336534
                      refine G_i2l dr_cX17_next_113 (G_namL fun u336535 hu336535 => ?_)
                      refine G_aload_n 4 dr_cX17_next_114 rfl ?_
                      refine Gp_get 16 hm335893 he335894 dr_cX17_next_115 (gk_X17 D I) (Nat.le_of_ble_eq_true rfl) wr_7_90 rfl ?_
                      refine G_iload_n 3 dr_cX17_next_118 rfl ?_
                      have hm336536 : (γ 9 16) ∈ P335888 := RS_m hT ht335924 (by decide)
                      obtain ⟨f336538, he336537⟩ := show rk_19 I (F335889 (γ 9 16)) from RS_o hT ht335924
                      refine Gp_iald 0 hm336536 he336537 dr_cX17_next_119 rfl (gB_in bg336492'' (by decide) (by decide)) (G_nam fun z336539 hz336539 => ?_)
                      have bz336539 : gB z336539 (-2147483648) 2147483647 := gB_any z336539
                      refine G_i2l dr_cX17_next_120 (G_namL fun u336540 hu336540 => ?_)
                      refine G_lmul dr_cX17_next_121 (G_namL fun u336541 hu336541 => ?_)
                      refine G_aload_n 4 dr_cX17_next_122 rfl ?_
                      refine Gp_get 5 hm335893 he335894 dr_cX17_next_123 (gk_X17 D I) (Nat.le_of_ble_eq_true rfl) wr_7_79 rfl ?_
                      refine G_iload_n 3 dr_cX17_next_126 rfl ?_
                      refine Gp_iald 0 hm336531 he336532 dr_cX17_next_127 rfl (gB_in bg336492'' (by decide) (by decide)) (G_nam fun z336542 hz336542 => ?_)
                      have bz336542 : gB z336542 (-2147483648) 2147483647 := gB_any z336542
                      refine G_i2l dr_cX17_next_128 (G_namL fun u336543 hu336543 => ?_)
                      refine G_aload_n 4 dr_cX17_next_129 rfl ?_
                      refine Gp_get 16 hm335893 he335894 dr_cX17_next_130 (gk_X17 D I) (Nat.le_of_ble_eq_true rfl) wr_7_90 rfl ?_
                      refine G_iload_n 2 dr_cX17_next_133 rfl ?_
                      refine Gp_iald 0 hm336536 he336537 dr_cX17_next_134 rfl (gB_in bg336491'' (by decide) (by decide)) (G_nam fun z336544 hz336544 => ?_)
                      have bz336544 : gB z336544 (-2147483648) 2147483647 := gB_any z336544
                      refine G_i2l dr_cX17_next_135 (G_namL fun u336545 hu336545 => ?_)
                      refine G_lmul dr_cX17_next_136 (G_namL fun u336546 hu336546 => ?_)
                      refine G_lcmp dr_cX17_next_137 (G_nam fun z336547 hz336547 => ?_)
                      have bz336547 : gB z336547 (-1) 1 := gB_cmp hz336547
                      refine G_if_ge 145 dr_cX17_next_138 (by decide +kernel) (fun hc336548 => ?_) (fun hc336548 => ?_)
                      · have r336549 : 0 ≤ z336547.toInt := gj_leL hc336548 (show Int32.toInt 0 = 0 by decide)
                        have bz336547' : gB z336547 0 1 := ⟨by omega, by omega⟩
                        refine G_iconst 0 dr_cX17_next_145 (by decide +kernel) ?_
                        refine G_istore (L' := [(6, .int 0), (5, .int 1), (4, .int 0), (3, .int g336491), (2, .int g336492), (0, .ref q335890), (1, .int p335891)]) dr_cX17_next_146 (Nat.le_of_ble_eq_true rfl) rfl ?_
                        refine G_iload 2 dr_cX17_next_148 rfl ?_
                        refine G_if_ne 158 dr_cX17_next_150 (by decide +kernel) (fun hc => absurd hc (by decide)) (fun _ => ?_)
                        refine G_iload 1 dr_cX17_next_153 rfl ?_
                        refine G_if_ne 163 dr_cX17_next_155 (by decide +kernel) (fun _ => ?_) (fun hc => absurd hc (by decide))
                        refine G_iload_n 3 dr_cX17_next_163 rfl ?_
                        refine G_istore_n (L' := [(2, .int g336491), (6, .int 0), (5, .int 1), (4, .int 0), (3, .int g336491), (0, .ref q335890), (1, .int p335891)]) dr_cX17_next_164 (Nat.le_of_ble_eq_true rfl) rfl ?_
                        obtain ⟨z336550, hz336550⟩ : ∃ z : Int32, z = g336491 + Int32.ofInt 1 := ⟨_, rfl⟩
                        have ez336550 : z336550.toInt = g336491.toInt + 1 := gI_inc hz336550 (by decide) bg336491'' (by decide) (by decide)
                        have bz336550 : gB z336550 1 100 := ⟨by omega, by omega⟩
                        refine G_iinc (L' := [(3, .int z336550), (2, .int g336491), (6, .int 0), (5, .int 1), (4, .int 0), (0, .ref q335890), (1, .int p335891)]) z336550 4 dr_cX17_next_165 rfl hz336550.symm (Nat.le_of_ble_eq_true rfl) rfl ?_
                        refine G_goto 40 dr_cX17_next_168 (by decide +kernel) ?_
                        refine G_lv (L' := [(3, .int z336550), (2, .int g336491), (0, .ref q335890), (1, .int p335891)]) [0, 1, 5, 6] rfl ?_
                        exact ih40_336494 z336550 g336491 (gB_w bz336550 (by decide) (by decide)) (gB_w bg336491'' (by decide) (by decide)) (by first | exact fun h => absurd h (by omega) | exact fun h => (by rw [ez336550]; rw [cB_of he335941]; have q := x336493; rw [cB_of he335941] at q; exact nx_0 (q h) hz336499 (by omega) rfl)) (fun _ => by rw [cB_of he335941]; exact sd_of hz336499 (by omega) (by omega) (by omega)) (by omega)
                      · have r336551 : z336547.toInt < 0 := gj_nleL hc336548 (show Int32.toInt 0 = 0 by decide)
                        have bz336547' : gB z336547 (-1) (-1) := ⟨by omega, by omega⟩
                        have lhc336548 := gC_cmpS hz336547 (by omega)
                        refine G_iconst 1 dr_cX17_next_141 (by decide +kernel) ?_
                        refine G_goto 146 dr_cX17_next_142 (by decide +kernel) ?_
                        refine G_istore (L' := [(6, .int 1), (5, .int 1), (4, .int 0), (3, .int g336491), (2, .int g336492), (0, .ref q335890), (1, .int p335891)]) dr_cX17_next_146 (Nat.le_of_ble_eq_true rfl) rfl ?_
                        refine G_iload 2 dr_cX17_next_148 rfl ?_
                        refine G_if_ne 158 dr_cX17_next_150 (by decide +kernel) (fun hc => absurd hc (by decide)) (fun _ => ?_)
                        refine G_iload 1 dr_cX17_next_153 rfl ?_
                        refine G_if_ne 163 dr_cX17_next_155 (by decide +kernel) (fun _ => ?_) (fun hc => absurd hc (by decide))
                        refine G_iload_n 3 dr_cX17_next_163 rfl ?_
                        refine G_istore_n (L' := [(2, .int g336491), (6, .int 1), (5, .int 1), (4, .int 0), (3, .int g336491), (0, .ref q335890), (1, .int p335891)]) dr_cX17_next_164 (Nat.le_of_ble_eq_true rfl) rfl ?_
                        obtain ⟨z336552, hz336552⟩ : ∃ z : Int32, z = g336491 + Int32.ofInt 1 := ⟨_, rfl⟩
                        have ez336552 : z336552.toInt = g336491.toInt + 1 := gI_inc hz336552 (by decide) bg336491'' (by decide) (by decide)
                        have bz336552 : gB z336552 1 100 := ⟨by omega, by omega⟩
                        refine G_iinc (L' := [(3, .int z336552), (2, .int g336491), (6, .int 1), (5, .int 1), (4, .int 0), (0, .ref q335890), (1, .int p335891)]) z336552 4 dr_cX17_next_165 rfl hz336552.symm (Nat.le_of_ble_eq_true rfl) rfl ?_
                        refine G_goto 40 dr_cX17_next_168 (by decide +kernel) ?_
                        refine G_lv (L' := [(3, .int z336552), (2, .int g336491), (0, .ref q335890), (1, .int p335891)]) [0, 1, 5, 6] rfl ?_
                        exact ih40_336494 z336552 g336491 (gB_w bz336552 (by decide) (by decide)) (gB_w bg336491'' (by decide) (by decide)) (by first | exact fun h => absurd h (by omega) | exact fun h => (by rw [ez336552]; rw [cB_of he335941]; have q := x336493; rw [cB_of he335941] at q; exact nx_0 (q h) hz336499 (by omega) rfl)) (fun _ => by rw [cB_of he335941]; exact sd_of hz336499 (by omega) (by omega) (by omega)) (by omega)
                  · have r336553 : 100 ≤ g336491.toInt := gj_nlt hc336504 (show Int32.toInt 100 = 100 by decide)
                    have bg336491'' : gB g336491 100 1999 := ⟨by omega, by omega⟩
                    refine G_iconst 1 dr_cX17_next_74 (by decide +kernel) ?_
                    refine G_goto 79 dr_cX17_next_75 (by decide +kernel) ?_
                    refine G_istore (L' := [(4, .int 1), (3, .int g336491), (2, .int g336492), (0, .ref q335890), (1, .int p335891)]) dr_cX17_next_79 (Nat.le_of_ble_eq_true rfl) rfl ?_
                    refine G_iload_n 2 dr_cX17_next_81 rfl ?_
                    refine G_bipush 100 dr_cX17_next_82 (by decide +kernel) ?_
                    refine G_icmp_lt 91 dr_cX17_next_84 (by decide +kernel) (fun hc336554 => ?_) (fun hc336554 => ?_)
                    · have r336555 : g336492.toInt < 100 := gj_lt hc336554 (show Int32.toInt 100 = 100 by decide)
                      have bg336492'' : gB g336492 0 99 := ⟨by omega, by omega⟩
                      refine G_iconst 0 dr_cX17_next_91 (by decide +kernel) ?_
                      refine G_istore (L' := [(5, .int 0), (4, .int 1), (3, .int g336491), (2, .int g336492), (0, .ref q335890), (1, .int p335891)]) dr_cX17_next_92 (Nat.le_of_ble_eq_true rfl) rfl ?_
                      refine G_iload 1 dr_cX17_next_94 rfl ?_
                      refine G_if_eq 107 dr_cX17_next_96 (by decide +kernel) (fun hc => absurd hc (by decide)) (fun _ => ?_)
                      refine G_iload 0 dr_cX17_next_99 rfl ?_
                      refine G_if_ne 107 dr_cX17_next_101 (by decide +kernel) (fun hc => absurd hc (by decide)) (fun _ => ?_)
                      refine G_goto 165 dr_cX17_next_104 (by decide +kernel) ?_
                      obtain ⟨z336556, hz336556⟩ : ∃ z : Int32, z = g336491 + Int32.ofInt 1 := ⟨_, rfl⟩
                      have ez336556 : z336556.toInt = g336491.toInt + 1 := gI_inc hz336556 (by decide) bg336491'' (by decide) (by decide)
                      have bz336556 : gB z336556 101 2000 := ⟨by omega, by omega⟩
                      refine G_iinc (L' := [(3, .int z336556), (5, .int 0), (4, .int 1), (2, .int g336492), (0, .ref q335890), (1, .int p335891)]) z336556 2 dr_cX17_next_165 rfl hz336556.symm (Nat.le_of_ble_eq_true rfl) rfl ?_
                      refine G_goto 40 dr_cX17_next_168 (by decide +kernel) ?_
                      refine G_lv (L' := [(3, .int z336556), (2, .int g336492), (0, .ref q335890), (1, .int p335891)]) [0, 3, 4, 5] rfl ?_
                      exact ih40_336494 z336556 g336492 (gB_w bz336556 (by decide) (by decide)) (gB_w bg336492'' (by decide) (by decide)) (by first | exact fun h => absurd h (by omega) | exact fun h => (by rw [ez336556]; rw [cB_of he335941]; have q := x336493; rw [cB_of he335941] at q; exact nx_0 (q h) hz336499 (by omega) rfl)) x336494 (by omega)
                    · have r336557 : 100 ≤ g336492.toInt := gj_nlt hc336554 (show Int32.toInt 100 = 100 by decide)
                      have bg336492'' : gB g336492 100 1999 := ⟨by omega, by omega⟩
                      refine G_iconst 1 dr_cX17_next_87 (by decide +kernel) ?_
                      refine G_goto 92 dr_cX17_next_88 (by decide +kernel) ?_
                      refine G_istore (L' := [(5, .int 1), (4, .int 1), (3, .int g336491), (2, .int g336492), (0, .ref q335890), (1, .int p335891)]) dr_cX17_next_92 (Nat.le_of_ble_eq_true rfl) rfl ?_
                      refine G_iload 1 dr_cX17_next_94 rfl ?_
                      refine G_if_eq 107 dr_cX17_next_96 (by decide +kernel) (fun hc => absurd hc (by decide)) (fun _ => ?_)
                      refine G_iload 0 dr_cX17_next_99 rfl ?_
                      refine G_if_ne 107 dr_cX17_next_101 (by decide +kernel) (fun _ => ?_) (fun hc => absurd hc (by decide))
                      refine G_aload_n 4 dr_cX17_next_107 rfl ?_
                      refine Gp_get 5 hm335893 he335894 dr_cX17_next_108 (gk_X17 D I) (Nat.le_of_ble_eq_true rfl) wr_7_79 rfl ?_
                      refine G_iload_n 2 dr_cX17_next_111 rfl ?_
                      have hm336558 : (γ 9 5) ∈ P335888 := RS_m hT ht335919 (by decide)
                      obtain ⟨f336560, he336559⟩ := show rk_17 I (F335889 (γ 9 5)) from RS_o hT ht335919
                      refine Gp_iald 0 hm336558 he336559 dr_cX17_next_112 rfl (gB_in bg336491'' (by decide) (by decide)) (G_nam fun z336561 hz336561 => ?_)
                      have bz336561 : gB z336561 (-2147483648) 2147483647 := gB_any z336561
                      refine G_i2l dr_cX17_next_113 (G_namL fun u336562 hu336562 => ?_)
                      refine G_aload_n 4 dr_cX17_next_114 rfl ?_
                      refine Gp_get 16 hm335893 he335894 dr_cX17_next_115 (gk_X17 D I) (Nat.le_of_ble_eq_true rfl) wr_7_90 rfl ?_
                      refine G_iload_n 3 dr_cX17_next_118 rfl ?_
                      have hm336563 : (γ 9 16) ∈ P335888 := RS_m hT ht335924 (by decide)
                      obtain ⟨f336565, he336564⟩ := show rk_19 I (F335889 (γ 9 16)) from RS_o hT ht335924
                      refine Gp_iald 0 hm336563 he336564 dr_cX17_next_119 rfl (gB_in bg336492'' (by decide) (by decide)) (G_nam fun z336566 hz336566 => ?_)
                      have bz336566 : gB z336566 (-2147483648) 2147483647 := gB_any z336566
                      refine G_i2l dr_cX17_next_120 (G_namL fun u336567 hu336567 => ?_)
                      refine G_lmul dr_cX17_next_121 (G_namL fun u336568 hu336568 => ?_)
                      refine G_aload_n 4 dr_cX17_next_122 rfl ?_
                      refine Gp_get 5 hm335893 he335894 dr_cX17_next_123 (gk_X17 D I) (Nat.le_of_ble_eq_true rfl) wr_7_79 rfl ?_
                      refine G_iload_n 3 dr_cX17_next_126 rfl ?_
                      refine Gp_iald 0 hm336558 he336559 dr_cX17_next_127 rfl (gB_in bg336492'' (by decide) (by decide)) (G_nam fun z336569 hz336569 => ?_)
                      have bz336569 : gB z336569 (-2147483648) 2147483647 := gB_any z336569
                      refine G_i2l dr_cX17_next_128 (G_namL fun u336570 hu336570 => ?_)
                      refine G_aload_n 4 dr_cX17_next_129 rfl ?_
                      refine Gp_get 16 hm335893 he335894 dr_cX17_next_130 (gk_X17 D I) (Nat.le_of_ble_eq_true rfl) wr_7_90 rfl ?_
                      refine G_iload_n 2 dr_cX17_next_133 rfl ?_
                      refine Gp_iald 0 hm336563 he336564 dr_cX17_next_134 rfl (gB_in bg336491'' (by decide) (by decide)) (G_nam fun z336571 hz336571 => ?_)
                      have bz336571 : gB z336571 (-2147483648) 2147483647 := gB_any z336571
                      refine G_i2l dr_cX17_next_135 (G_namL fun u336572 hu336572 => ?_)
                      refine G_lmul dr_cX17_next_136 (G_namL fun u336573 hu336573 => ?_)
                      refine G_lcmp dr_cX17_next_137 (G_nam fun z336574 hz336574 => ?_)
                      have bz336574 : gB z336574 (-1) 1 := gB_cmp hz336574
                      refine G_if_ge 145 dr_cX17_next_138 (by decide +kernel) (fun hc336575 => ?_) (fun hc336575 => ?_)
                      · have r336576 : 0 ≤ z336574.toInt := gj_leL hc336575 (show Int32.toInt 0 = 0 by decide)
                        have bz336574' : gB z336574 0 1 := ⟨by omega, by omega⟩
                        refine G_iconst 0 dr_cX17_next_145 (by decide +kernel) ?_
                        refine G_istore (L' := [(6, .int 0), (5, .int 1), (4, .int 1), (3, .int g336491), (2, .int g336492), (0, .ref q335890), (1, .int p335891)]) dr_cX17_next_146 (Nat.le_of_ble_eq_true rfl) rfl ?_
                        refine G_iload 2 dr_cX17_next_148 rfl ?_
                        refine G_if_ne 158 dr_cX17_next_150 (by decide +kernel) (fun _ => ?_) (fun hc => absurd hc (by decide))
                        refine G_iload 0 dr_cX17_next_158 rfl ?_
                        refine G_if_eq 165 dr_cX17_next_160 (by decide +kernel) (fun _ => ?_) (fun hc => absurd hc (by decide))
                        obtain ⟨z336577, hz336577⟩ : ∃ z : Int32, z = g336491 + Int32.ofInt 1 := ⟨_, rfl⟩
                        have ez336577 : z336577.toInt = g336491.toInt + 1 := gI_inc hz336577 (by decide) bg336491'' (by decide) (by decide)
                        have bz336577 : gB z336577 101 2000 := ⟨by omega, by omega⟩
                        refine G_iinc (L' := [(3, .int z336577), (6, .int 0), (5, .int 1), (4, .int 1), (2, .int g336492), (0, .ref q335890), (1, .int p335891)]) z336577 3 dr_cX17_next_165 rfl hz336577.symm (Nat.le_of_ble_eq_true rfl) rfl ?_
                        refine G_goto 40 dr_cX17_next_168 (by decide +kernel) ?_
                        refine G_lv (L' := [(3, .int z336577), (2, .int g336492), (0, .ref q335890), (1, .int p335891)]) [0, 4, 5, 6] rfl ?_
                        exact ih40_336494 z336577 g336492 (gB_w bz336577 (by decide) (by decide)) (gB_w bg336492'' (by decide) (by decide)) (by first | exact fun h => absurd h (by omega) | exact fun h => (by rw [ez336577]; rw [cB_of he335941]; have q := x336493; rw [cB_of he335941] at q; exact nx_0 (q h) hz336499 (by omega) rfl)) x336494 (by omega)
                      · have r336578 : z336574.toInt < 0 := gj_nleL hc336575 (show Int32.toInt 0 = 0 by decide)
                        have bz336574' : gB z336574 (-1) (-1) := ⟨by omega, by omega⟩
                        have lhc336575 := gC_cmpS hz336574 (by omega)
                        refine G_iconst 1 dr_cX17_next_141 (by decide +kernel) ?_
                        refine G_goto 146 dr_cX17_next_142 (by decide +kernel) ?_
                        refine G_istore (L' := [(6, .int 1), (5, .int 1), (4, .int 1), (3, .int g336491), (2, .int g336492), (0, .ref q335890), (1, .int p335891)]) dr_cX17_next_146 (Nat.le_of_ble_eq_true rfl) rfl ?_
                        refine G_iload 2 dr_cX17_next_148 rfl ?_
                        refine G_if_ne 158 dr_cX17_next_150 (by decide +kernel) (fun _ => ?_) (fun hc => absurd hc (by decide))
                        refine G_iload 0 dr_cX17_next_158 rfl ?_
                        refine G_if_eq 165 dr_cX17_next_160 (by decide +kernel) (fun hc => absurd hc (by decide)) (fun _ => ?_)
                        refine G_iload_n 3 dr_cX17_next_163 rfl ?_
                        refine G_istore_n (L' := [(2, .int g336491), (6, .int 1), (5, .int 1), (4, .int 1), (3, .int g336491), (0, .ref q335890), (1, .int p335891)]) dr_cX17_next_164 (Nat.le_of_ble_eq_true rfl) rfl ?_
                        obtain ⟨z336579, hz336579⟩ : ∃ z : Int32, z = g336491 + Int32.ofInt 1 := ⟨_, rfl⟩
                        have ez336579 : z336579.toInt = g336491.toInt + 1 := gI_inc hz336579 (by decide) bg336491'' (by decide) (by decide)
                        have bz336579 : gB z336579 101 2000 := ⟨by omega, by omega⟩
                        refine G_iinc (L' := [(3, .int z336579), (2, .int g336491), (6, .int 1), (5, .int 1), (4, .int 1), (0, .ref q335890), (1, .int p335891)]) z336579 4 dr_cX17_next_165 rfl hz336579.symm (Nat.le_of_ble_eq_true rfl) rfl ?_
                        refine G_goto 40 dr_cX17_next_168 (by decide +kernel) ?_
                        refine G_lv (L' := [(3, .int z336579), (2, .int g336491), (0, .ref q335890), (1, .int p335891)]) [0, 1, 5, 6] rfl ?_
                        exact ih40_336494 z336579 g336491 (gB_w bz336579 (by decide) (by decide)) (gB_w bg336491'' (by decide) (by decide)) (by first | exact fun h => absurd h (by omega) | exact fun h => (by rw [ez336579]; rw [cB_of he335941]; have q := x336493; rw [cB_of he335941] at q; exact nx_0 (q h) hz336499 (by omega) rfl)) (fun _ => by rw [cB_of he335941]; exact sd_of hz336499 (by omega) (by omega) (by omega)) (by omega)
                · have r336580 : g336492.toInt < 0 := gj_nleL hc336502 (show Int32.toInt 0 = 0 by decide)
                  have bg336492' : gB g336492 (-1) (-1) := ⟨by omega, by omega⟩
                  refine G_iload_n 0 dr_cX17_next_63 rfl ?_
                  refine G_istore_n (L' := [(2, .int g336491), (3, .int g336491), (0, .ref q335890), (1, .int p335891)]) dr_cX17_next_64 (Nat.le_of_ble_eq_true rfl) rfl ?_
                  refine G_goto 165 dr_cX17_next_65 (by decide +kernel) ?_
                  obtain ⟨z336581, hz336581⟩ : ∃ z : Int32, z = g336491 + Int32.ofInt 1 := ⟨_, rfl⟩
                  have ez336581 : z336581.toInt = g336491.toInt + 1 := gI_inc hz336581 (by decide) bg336491' (by decide) (by decide)
                  have bz336581 : gB z336581 1 2000 := ⟨by omega, by omega⟩
                  refine G_iinc (L' := [(3, .int z336581), (2, .int g336491), (0, .ref q335890), (1, .int p335891)]) z336581 1 dr_cX17_next_165 rfl hz336581.symm (Nat.le_of_ble_eq_true rfl) rfl ?_
                  refine G_goto 40 dr_cX17_next_168 (by decide +kernel) ?_
                  exact ih40_336494 z336581 g336491 (gB_w bz336581 (by decide) (by decide)) (gB_w bg336491' (by decide) (by decide)) (by first | exact fun h => absurd h (by omega) | exact fun h => (by rw [ez336581]; rw [cB_of he335941]; have q := x336493; rw [cB_of he335941] at q; exact nx_0 (q h) hz336499 (by omega) rfl)) (fun _ => by rw [cB_of he335941]; exact sd_of hz336499 (by omega) (by omega) (by omega)) (by omega)
              · have r336582 : z336499.toInt = 0 := gj_eq hc336500 (show Int32.toInt 0 = 0 by decide)
                have bz336499' : gB z336499 0 0 := ⟨by omega, by omega⟩
                refine G_goto 165 dr_cX17_next_56 (by decide +kernel) ?_
                obtain ⟨z336583, hz336583⟩ : ∃ z : Int32, z = g336491 + Int32.ofInt 1 := ⟨_, rfl⟩
                have ez336583 : z336583.toInt = g336491.toInt + 1 := gI_inc hz336583 (by decide) bg336491' (by decide) (by decide)
                have bz336583 : gB z336583 1 2000 := ⟨by omega, by omega⟩
                refine G_iinc (L' := [(3, .int z336583), (2, .int g336492), (0, .ref q335890), (1, .int p335891)]) z336583 0 dr_cX17_next_165 rfl hz336583.symm (Nat.le_of_ble_eq_true rfl) rfl ?_
                refine G_goto 40 dr_cX17_next_168 (by decide +kernel) ?_
                exact ih40_336494 z336583 g336492 (gB_w bz336583 (by decide) (by decide)) bg336492 (by first | exact fun h => absurd h (by omega) | exact fun h => (by rw [ez336583]; rw [cB_of he335941]; have q := x336493; rw [cB_of he335941] at q; exact nx_0 (q h) hz336499 (by omega) rfl)) x336494 (by omega)
        exact hlp40_336494 (((2001 : Int) - 0).toNat + 1) 0 (-1) (gB_w (gBl (show Int32.toInt 0 = 0 by decide)) (by decide) (by decide)) (gB_w (gBl (show Int32.toInt (-1) = (-1) by decide)) (by decide) (by decide)) (fun _ m hm => absurd hm (by have qa : Int32.toInt 0 = 0 := (by decide); omega)) (fun h => absurd h (by decide)) (Nat.lt_succ_self _)
      · have r336584 : g336397.toInt < 2000 := gj_nleL hc336399 (show Int32.toInt 2000 = 2000 by decide)
        have bg336397' : gB g336397 0 1999 := ⟨by omega, by omega⟩
        refine G_aload_n 1 dr_cX17_next_9 rfl ?_
        refine Gp_get 18 hm335893 he335894 dr_cX17_next_10 (gk_X17 D I) (Nat.le_of_ble_eq_true rfl) wr_7_92 rfl ?_
        refine G_iload_n 0 dr_cX17_next_13 rfl ?_
        refine Gp_zald 3 hm335940 he335941 dr_cX17_next_14 rfl (gB_in bg336397' (by decide) (by decide)) (G_nam fun z336585 hz336585 => ?_)
        have bz336585 : gB z336585 0 1 := by rw [hz336585]; exact bf335942 _
        refine G_if_eq 30 dr_cX17_next_15 (by decide +kernel) (fun hc336586 => ?_) (fun hc336586 => ?_)
        · have r336587 : z336585.toInt = 0 := gj_eq hc336586 (show Int32.toInt 0 = 0 by decide)
          have bz336585' : gB z336585 0 0 := ⟨by omega, by omega⟩
          obtain ⟨z336588, hz336588⟩ : ∃ z : Int32, z = g336397 + Int32.ofInt 1 := ⟨_, rfl⟩
          have ez336588 : z336588.toInt = g336397.toInt + 1 := gI_inc hz336588 (by decide) bg336397' (by decide) (by decide)
          have bz336588 : gB z336588 1 2000 := ⟨by omega, by omega⟩
          refine G_iinc (L' := [(2, .int z336588), (0, .ref q335890), (1, .int p335891)]) z336588 0 dr_cX17_next_30 rfl hz336588.symm (Nat.le_of_ble_eq_true rfl) rfl ?_
          refine G_goto 2 dr_cX17_next_33 (by decide +kernel) ?_
          exact ih2_336397 z336588 (gB_w bz336588 (by decide) (by decide)) (by omega)
        · have r336589 : z336585.toInt ≠ 0 := gj_neq hc336586 (show Int32.toInt 0 = 0 by decide)
          have bz336585' : gB z336585 1 1 := ⟨by omega, by omega⟩
          refine G_aload_n 1 dr_cX17_next_18 rfl ?_
          refine Gp_get 16 hm335893 he335894 dr_cX17_next_19 (gk_X17 D I) (Nat.le_of_ble_eq_true rfl) wr_7_90 rfl ?_
          refine G_iload_n 0 dr_cX17_next_22 rfl ?_
          have hm336590 : (γ 9 16) ∈ P335888 := RS_m hT ht335924 (by decide)
          obtain ⟨f336592, he336591⟩ := show rk_19 I (F335889 (γ 9 16)) from RS_o hT ht335924
          refine Gp_iald 0 hm336590 he336591 dr_cX17_next_23 rfl (gB_in bg336397' (by decide) (by decide)) (G_nam fun z336593 hz336593 => ?_)
          have bz336593 : gB z336593 (-2147483648) 2147483647 := gB_any z336593
          refine G_iload_n 2 dr_cX17_next_24 rfl ?_
          refine G_icmp_ge 30 dr_cX17_next_25 (by decide +kernel) (fun hc336594 => ?_) (fun hc336594 => ?_)
          · have r336595 : p335891.toInt ≤ z336593.toInt := gC_le hc336594
            obtain ⟨z336596, hz336596⟩ : ∃ z : Int32, z = g336397 + Int32.ofInt 1 := ⟨_, rfl⟩
            have ez336596 : z336596.toInt = g336397.toInt + 1 := gI_inc hz336596 (by decide) bg336397' (by decide) (by decide)
            have bz336596 : gB z336596 1 2000 := ⟨by omega, by omega⟩
            refine G_iinc (L' := [(2, .int z336596), (0, .ref q335890), (1, .int p335891)]) z336596 0 dr_cX17_next_30 rfl hz336596.symm (Nat.le_of_ble_eq_true rfl) rfl ?_
            refine G_goto 2 dr_cX17_next_33 (by decide +kernel) ?_
            exact ih2_336397 z336596 (gB_w bz336596 (by decide) (by decide)) (by omega)
          · have r336597 : z336593.toInt < p335891.toInt := gC_nle hc336594
            have bz336593' : gB z336593 (-2147483648) 2147483646 := ⟨by omega, by omega⟩
            have bp335891' : gB p335891 (-2147483647) 2147483647 := ⟨by omega, by omega⟩
            refine G_iload_n 0 dr_cX17_next_28 rfl ?_
            exact G_iretA dr_cX17_next_29 rfl (Nat.le_of_ble_eq_true rfl) (Nat.le_of_ble_eq_true rfl) ⟨g336397, rfl, rfl, (Nat.le_of_ble_eq_true rfl), (Nat.le_of_ble_eq_true rfl), (gB_w bg336397' (by decide) (by decide)), (fun _ => by rw [cB_of he335941]; exact sd_of hz336585 (by omega) (by omega) (by omega)), (fun h => absurd h (by omega))⟩
  exact hlp2_336397 (((2001 : Int) - 0).toNat + 1) 0 (gB_w (gBl (show Int32.toInt 0 = 0 by decide)) (by decide) (by decide)) (Nat.lt_succ_self _)
abbrev ky_335096_SpillForgeModel_colours : gKey := (cX17_colours, 8, "SpillForgeModel", (some FieldType.int), [], "colours", fun _ _ => True)
def pt_335096_SpillForgeModel_colours (D : va_G) (I : FieldType → ClassId) (γ el : Nat → Nat → Nat) (P335092 : List Nat) (F335093 : Nat → va_E) (q335094 : Nat) (p335095 : Int32) : Option Value → va_W → Nat → Nat → Prop := fun r w dc ds => ∃ (F343731 : Nat → va_E) (o343730 : Int32), r = some (.int o343730) ∧ w = va_pl P335092 F343731 ∧ RS D I P335092 F343731 γ el ∧ rStr γ [] F335093 F343731 ∧ dc ≤ 0 ∧ ds ≤ 0 ∧ gB o343730 0 2000 ∧ (gIp (o343730.toInt = 0) (∀ m : Nat, rSd (cB (F343731 (γ 9 3))) m → 0 ≤ (cB (F343731 (γ 9 17)) m).toInt)) ∧ (F343731 q335094 = F335093 q335094) ∧ (F343731 (γ 9 3) = F335093 (γ 9 3))
set_option maxRecDepth 100000 in
set_option maxHeartbeats 4000000 in
theorem ct_335096_SpillForgeModel_colours (l : Launch) (hl0 : l.stackTraces = false) (D : va_G) (I : FieldType → ClassId) (γ el : Nat → Nat → Nat) (P335092 : List Nat) (F335093 : Nat → va_E) (q335094 : Nat) (p335095 : Int32) (hT : RS D I P335092 F335093 γ el) (htq335094 : rKd γ q335094 10) (bp335095 : gB p335095 1 32) : CtA (gV D I) l yX17_colours cX17_colours 8 (some FieldType.int) 2 43 0 0 [.ref q335094, .int p335095] (va_pl P335092 F335093) (pt_335096_SpillForgeModel_colours D I γ el P335092 F335093 q335094 p335095) gNA := by
  refine CtA_of hl0 (by decide) (Nat.le_of_ble_eq_true rfl) ?_
  have hm335097 : q335094 ∈ P335092 := RS_m hT htq335094 (by decide)
  refine rk10_e (show rk_10 γ (F335093 q335094) from RS_o hT htq335094) (fun q335099 q335100 p335101 p335102 p335103 p335104 p335105 p335106 p335107 p335108 p335109 p335110 p335111 p335112 p335113 p335114 p335115 he335098 hB335142 ht335116 ht335117 ht335118 ht335119 ht335120 ht335121 ht335122 ht335123 ht335124 ht335125 ht335126 ht335127 ht335128 ht335129 ht335130 ht335131 ht335132 ht335133 ht335134 ht335135 ht335136 ht335137 ht335138 ht335139 hB335143 => ?_)
  have hm335144 : (γ 9 3) ∈ P335092 := RS_m hT ht335121 (by decide)
  obtain ⟨f335146, he335145, bf335146⟩ := show rk_14 I (F335093 (γ 9 3)) from RS_o hT ht335121
  have hm335147 : (γ 9 18) ∈ P335092 := RS_m hT ht335130 (by decide)
  obtain ⟨f335149, he335148, bf335149⟩ := show rk_15 I (F335093 (γ 9 18)) from RS_o hT ht335130
  have hm335150 : (γ 9 15) ∈ P335092 := RS_m hT ht335127 (by decide)
  obtain ⟨f335152, he335151, bf335152⟩ := show rk_18 I (F335093 (γ 9 15)) from RS_o hT ht335127
  have hm335153 : (γ 9 17) ∈ P335092 := RS_m hT ht335129 (by decide)
  obtain ⟨f335155, he335154, bf335155⟩ := show rk_20 I (F335093 (γ 9 17)) from RS_o hT ht335129
  refine G_iconst 0 dr_cX17_colours_0 (by decide +kernel) ?_
  refine G_istore_n (L' := [(2, .int 0), (0, .ref q335094), (1, .int p335095)]) dr_cX17_colours_1 (Nat.le_of_ble_eq_true rfl) rfl ?_
  have hlp2_342464 : ∀ (n2_342464 : Nat) (F342459 : Nat → va_E) (g342458 : Int32), gB g342458 0 2000 → RS D I P335092 F342459 γ el → rStr γ [] F335093 F342459 → (∀ m : Nat, (m : Int) < g342458.toInt → rSd (cB (F342459 (γ 9 3))) m → rSd (cB (F342459 (γ 9 18))) m) → (F342459 q335094 = F335093 q335094) → (F342459 (γ 9 3) = F335093 (γ 9 3)) → ((2001 : Int) - g342458.toInt).toNat < n2_342464 → G (gV D I) l (gRm 2 43 0 0) (gMA (gV D I) (pt_335096_SpillForgeModel_colours D I γ el P335092 F335093 q335094 p335095) gNA 0 0) ky_335096_SpillForgeModel_colours 2 [(2, .int g342458), (0, .ref q335094), (1, .int p335095)] [] (va_pl P335092 F342459) 0 0 := by
    intro n2_342464
    induction n2_342464 with
    | zero => intro F342459 g342458 bg342458 hT342460 hs342461 x342462 x342463 x342464 hm2_342464; exact absurd hm2_342464 (Nat.not_lt_zero _)
    | succ n2_342464 ih2_342464 =>
      intro F342459 g342458 bg342458 hT342460 hs342461 x342462 x342463 x342464 hm2_342464
      have hs342466 : rStr γ [] F335093 F342459 := fun b h0 hb hw => (hs342461 b h0 hb hw).trans ((rStr_rf (γ := γ) (W := []) (F := F335093)) b h0 hb hw).symm
      have hs342467 : rStr γ [] F335093 F342459 := rStr_tr (rStr_rf (γ := γ) (W := []) (F := F335093)) hs342466
      have he342468 : F342459 q335094 = .inr (22, [.ref (γ 9 0), .ref (γ 9 1), .ref (γ 9 2), .ref (γ 9 3), .ref (γ 9 4), .ref (γ 9 5), .ref (γ 9 6), .ref (γ 9 7), .ref (γ 9 8), .int p335101, .int p335102, .int p335103, .int p335104, .int p335105, .int p335106, .ref (γ 9 15), .ref (γ 9 16), .ref (γ 9 17), .ref (γ 9 18), .ref (γ 9 19), .ref (γ 9 20), .ref (γ 9 21), .ref (γ 9 22), .int p335107, .int p335108, .int p335109, .int p335110, .int p335111, .ref q335099, .ref (γ 9 29), .int p335112, .ref (γ 9 31), .int p335113, .int p335114, .int p335115, .ref q335100]) := x342463.trans he335098
      have hm342469 : q335094 ∈ P335092 := RS_m hT342460 htq335094 (by decide)
      have he342470 : F342459 (γ 9 3) = .inl (I .boolean, 2000, .inl f335146) := x342464.trans he335145
      have hm342471 : (γ 9 3) ∈ P335092 := RS_m hT342460 ht335121 (by decide)
      have hm342472 : (γ 9 18) ∈ P335092 := RS_m hT342460 ht335130 (by decide)
      obtain ⟨f342474, he342473, bf342474⟩ := show rk_15 I (F342459 (γ 9 18)) from RS_o hT342460 ht335130
      have hm342475 : (γ 9 15) ∈ P335092 := RS_m hT342460 ht335127 (by decide)
      obtain ⟨f342477, he342476, bf342477⟩ := show rk_18 I (F342459 (γ 9 15)) from RS_o hT342460 ht335127
      have hm342478 : (γ 9 17) ∈ P335092 := RS_m hT342460 ht335129 (by decide)
      obtain ⟨f342480, he342479, bf342480⟩ := show rk_20 I (F342459 (γ 9 17)) from RS_o hT342460 ht335129
      have cq342481 := x342462
      rw [cB_of he342470, cB_of he342473] at cq342481
      refine G_iload_n 0 dr_cX17_colours_2 rfl ?_
      refine G_sipush 2000 dr_cX17_colours_3 (by decide +kernel) ?_
      refine G_icmp_ge 62 dr_cX17_colours_6 (by decide +kernel) (fun hc342482 => ?_) (fun hc342482 => ?_)
      · have r342483 : 2000 ≤ g342458.toInt := gj_leL hc342482 (show Int32.toInt 2000 = 2000 by decide)
        have bg342458' : gB g342458 2000 2000 := ⟨by omega, by omega⟩
        refine G_iconst 0 dr_cX17_colours_62 (by decide +kernel) ?_
        refine G_istore_n (L' := [(2, .int 0), (0, .ref q335094), (1, .int p335095)]) dr_cX17_colours_63 (Nat.le_of_ble_eq_true rfl) rfl ?_
        refine G_aload_n 1 dr_cX17_colours_64 rfl ?_
        refine G_iload_n 2 dr_cX17_colours_65 rfl ?_
        refine Gw_callV (As := [.int p335095]) (gV_ok D I) (ct_335892_SpillForgeModel_next l hl0 D I γ el P335092 F342459 q335094 p335095 hT342460 htq335094) dr_cX17_colours_66 ⟨wr_11_51, wr_1_14, wr_11_54, by decide, rfl, (Nat.le_of_ble_eq_true rfl), (Nat.le_of_ble_eq_true rfl)⟩ wr_11_53 wr_p_107 hm342469 he342468 rfl (show 0 + 0 ≤ 0 by first | omega | decide) (show 0 + 0 ≤ 0 by first | omega | decide) (Nat.le_of_ble_eq_true rfl) (fun r342487 w342488 dc342484 ds342485 hp342486 => ?_) (fun _ _ _ _ _ z => z.elim)
        obtain ⟨o342489, rfl, rfl, hdc, hds, bo342489, x342490, x342491⟩ := hp342486
        change G _ _ _ _ _ _ _ (.int o342489 :: _) _ _ _
        refine G_widen (cs' := 0) (sl' := 0) (by omega) (by omega) ?_
        refine G_istore_n (L' := [(3, .int o342489), (2, .int 0), (0, .ref q335094), (1, .int p335095)]) dr_cX17_colours_69 (Nat.le_of_ble_eq_true rfl) rfl ?_
        have hlp70_343061 : ∀ (n70_343061 : Nat) (F343053 : Nat → va_E) (g343051 : Int32) (g343052 : Int32), gB g343051 (-1) 1999 → gB g343052 0 2000 → RS D I P335092 F343053 γ el → rStr γ [] F335093 F343053 → (∀ m : Nat, rSd (cB (F343053 (γ 9 3))) m → rSd (cB (F343053 (γ 9 18))) m ∨ ∃ i : Nat, (i : Int) < g343052.toInt ∧ (cB (F343053 (γ 9 15)) i).toInt = m) → (rcn (cB (F343053 (γ 9 18))) 2000 + (g343052.toInt : Int).toNat ≤ 2000) → (gIp (0 ≤ g343051.toInt) (rSd (cB (F343053 (γ 9 18))) (g343051.toInt : Int).toNat)) → (gIp (g343051.toInt < 0) (∀ m : Nat, ¬ rSd (cB (F343053 (γ 9 18))) m)) → (F343053 q335094 = F335093 q335094) → (F343053 (γ 9 3) = F335093 (γ 9 3)) → (rcn (cB (F343053 (γ 9 18))) 2000) < n70_343061 → G (gV D I) l (gRm 2 43 0 0) (gMA (gV D I) (pt_335096_SpillForgeModel_colours D I γ el P335092 F335093 q335094 p335095) gNA 0 0) ky_335096_SpillForgeModel_colours 70 [(3, .int g343051), (2, .int g343052), (0, .ref q335094), (1, .int p335095)] [] (va_pl P335092 F343053) 0 0 := by
          intro n70_343061
          induction n70_343061 with
          | zero => intro F343053 g343051 g343052 bg343051 bg343052 hT343054 hs343055 x343056 x343057 x343058 x343059 x343060 x343061 hm70_343061; exact absurd hm70_343061 (Nat.not_lt_zero _)
          | succ n70_343061 ih70_343061 =>
            intro F343053 g343051 g343052 bg343051 bg343052 hT343054 hs343055 x343056 x343057 x343058 x343059 x343060 x343061 hm70_343061
            have hs343063 : rStr γ [] F342459 F343053 := fun b h0 hb hw => (hs343055 b h0 hb hw).trans (hs342461 b h0 hb hw).symm
            have hs343064 : rStr γ [] F335093 F343053 := rStr_tr hs342461 hs343063
            have he343065 : F343053 q335094 = .inr (22, [.ref (γ 9 0), .ref (γ 9 1), .ref (γ 9 2), .ref (γ 9 3), .ref (γ 9 4), .ref (γ 9 5), .ref (γ 9 6), .ref (γ 9 7), .ref (γ 9 8), .int p335101, .int p335102, .int p335103, .int p335104, .int p335105, .int p335106, .ref (γ 9 15), .ref (γ 9 16), .ref (γ 9 17), .ref (γ 9 18), .ref (γ 9 19), .ref (γ 9 20), .ref (γ 9 21), .ref (γ 9 22), .int p335107, .int p335108, .int p335109, .int p335110, .int p335111, .ref q335099, .ref (γ 9 29), .int p335112, .ref (γ 9 31), .int p335113, .int p335114, .int p335115, .ref q335100]) := x343060.trans he335098
            have hm343066 : q335094 ∈ P335092 := RS_m hT343054 htq335094 (by decide)
            have he343067 : F343053 (γ 9 3) = .inl (I .boolean, 2000, .inl f335146) := x343061.trans he335145
            have hm343068 : (γ 9 3) ∈ P335092 := RS_m hT343054 ht335121 (by decide)
            have hm343069 : (γ 9 18) ∈ P335092 := RS_m hT343054 ht335130 (by decide)
            obtain ⟨f343071, he343070, bf343071⟩ := show rk_15 I (F343053 (γ 9 18)) from RS_o hT343054 ht335130
            have hm343072 : (γ 9 15) ∈ P335092 := RS_m hT343054 ht335127 (by decide)
            obtain ⟨f343074, he343073, bf343074⟩ := show rk_18 I (F343053 (γ 9 15)) from RS_o hT343054 ht335127
            have hm343075 : (γ 9 17) ∈ P335092 := RS_m hT343054 ht335129 (by decide)
            obtain ⟨f343077, he343076, bf343077⟩ := show rk_20 I (F343053 (γ 9 17)) from RS_o hT343054 ht335129
            have cq343078 := x343056
            rw [cB_of he343067, cB_of he343070, cB_of he343073] at cq343078
            have cq343079 := x343057
            rw [cB_of he343070] at cq343079
            have cq343080 := x343058
            rw [cB_of he343070] at cq343080
            have cq343081 := x343059
            rw [cB_of he343070] at cq343081
            refine G_iload_n 0 dr_cX17_colours_70 rfl ?_
            refine G_if_lt 142 dr_cX17_colours_71 (by decide +kernel) (fun hc343082 => ?_) (fun hc343082 => ?_)
            · have r343083 : g343051.toInt < 0 := gj_lt hc343082 (show Int32.toInt 0 = 0 by decide)
              have bg343051' : gB g343051 (-1) (-1) := ⟨by omega, by omega⟩
              refine G_iconst 0 dr_cX17_colours_142 (by decide +kernel) ?_
              refine G_istore_n (L' := [(3, .int 0), (2, .int g343052), (0, .ref q335094), (1, .int p335095)]) dr_cX17_colours_143 (Nat.le_of_ble_eq_true rfl) rfl ?_
              have hlp144_343257 : ∀ (n144_343257 : Nat) (F343251 : Nat → va_E) (g343249 : Int32) (g343250 : Int32), gB g343249 0 2000 → gB g343250 0 2000 → RS D I P335092 F343251 γ el → rStr γ [] F335093 F343251 → (gIp (g343249.toInt = 0) (∀ m : Nat, rSd (cB (F343251 (γ 9 3))) m → (∃ i : Nat, (i : Int) < g343250.toInt ∧ (cB (F343251 (γ 9 15)) i).toInt = m) ∨ 0 ≤ (cB (F343251 (γ 9 17)) m).toInt)) → (g343249.toInt + g343250.toInt ≤ 2000) → (F343251 q335094 = F335093 q335094) → (F343251 (γ 9 3) = F335093 (γ 9 3)) → ((g343250.toInt : Int) - (-1)).toNat < n144_343257 → G (gV D I) l (gRm 2 43 0 0) (gMA (gV D I) (pt_335096_SpillForgeModel_colours D I γ el P335092 F335093 q335094 p335095) gNA 0 0) ky_335096_SpillForgeModel_colours 144 [(3, .int g343249), (2, .int g343250), (0, .ref q335094), (1, .int p335095)] [] (va_pl P335092 F343251) 0 0 := by
                intro n144_343257
                induction n144_343257 with
                | zero => intro F343251 g343249 g343250 bg343249 bg343250 hT343252 hs343253 x343254 x343255 x343256 x343257 hm144_343257; exact absurd hm144_343257 (Nat.not_lt_zero _)
                | succ n144_343257 ih144_343257 =>
                  intro F343251 g343249 g343250 bg343249 bg343250 hT343252 hs343253 x343254 x343255 x343256 x343257 hm144_343257
                  have hs343259 : rStr γ [] F343053 F343251 := fun b h0 hb hw => (hs343253 b h0 hb hw).trans (hs343055 b h0 hb hw).symm
                  have hs343260 : rStr γ [] F335093 F343251 := rStr_tr hs343055 hs343259
                  have he343261 : F343251 q335094 = .inr (22, [.ref (γ 9 0), .ref (γ 9 1), .ref (γ 9 2), .ref (γ 9 3), .ref (γ 9 4), .ref (γ 9 5), .ref (γ 9 6), .ref (γ 9 7), .ref (γ 9 8), .int p335101, .int p335102, .int p335103, .int p335104, .int p335105, .int p335106, .ref (γ 9 15), .ref (γ 9 16), .ref (γ 9 17), .ref (γ 9 18), .ref (γ 9 19), .ref (γ 9 20), .ref (γ 9 21), .ref (γ 9 22), .int p335107, .int p335108, .int p335109, .int p335110, .int p335111, .ref q335099, .ref (γ 9 29), .int p335112, .ref (γ 9 31), .int p335113, .int p335114, .int p335115, .ref q335100]) := x343256.trans he335098
                  have hm343262 : q335094 ∈ P335092 := RS_m hT343252 htq335094 (by decide)
                  have he343263 : F343251 (γ 9 3) = .inl (I .boolean, 2000, .inl f335146) := x343257.trans he335145
                  have hm343264 : (γ 9 3) ∈ P335092 := RS_m hT343252 ht335121 (by decide)
                  have hm343265 : (γ 9 18) ∈ P335092 := RS_m hT343252 ht335130 (by decide)
                  obtain ⟨f343267, he343266, bf343267⟩ := show rk_15 I (F343251 (γ 9 18)) from RS_o hT343252 ht335130
                  have hm343268 : (γ 9 15) ∈ P335092 := RS_m hT343252 ht335127 (by decide)
                  obtain ⟨f343270, he343269, bf343270⟩ := show rk_18 I (F343251 (γ 9 15)) from RS_o hT343252 ht335127
                  have hm343271 : (γ 9 17) ∈ P335092 := RS_m hT343252 ht335129 (by decide)
                  obtain ⟨f343273, he343272, bf343273⟩ := show rk_20 I (F343251 (γ 9 17)) from RS_o hT343252 ht335129
                  have cq343274 := x343254
                  rw [cB_of he343263, cB_of he343269, cB_of he343272] at cq343274
                  refine G_iload_n 1 dr_cX17_colours_144 rfl ?_
                  refine G_if_le 253 dr_cX17_colours_145 (by decide +kernel) (fun hc343275 => ?_) (fun hc343275 => ?_)
                  · have r343276 : g343250.toInt ≤ 0 := gj_le hc343275 (show Int32.toInt 0 = 0 by decide)
                    have bg343250' : gB g343250 0 0 := ⟨by omega, by omega⟩
                    refine G_iload_n 0 dr_cX17_colours_253 rfl ?_
                    exact G_iretA dr_cX17_colours_254 rfl (Nat.le_of_ble_eq_true rfl) (Nat.le_of_ble_eq_true rfl) ⟨F343251, g343249, rfl, rfl, hT343252, hs343253, (Nat.le_of_ble_eq_true rfl), (Nat.le_of_ble_eq_true rfl), bg343249, (fun h0 m s => by rw [cB_of he343272]; rw [cB_of he343263] at s; exact (cq343274 h0 m s).resolve_left (fun ⟨i, hi, _⟩ => absurd hi (by omega))), x343256, x343257⟩
                  · have r343277 : 0 < g343250.toInt := gj_nle hc343275 (show Int32.toInt 0 = 0 by decide)
                    have bg343250' : gB g343250 1 2000 := ⟨by omega, by omega⟩
                    obtain ⟨z343278, hz343278⟩ : ∃ z : Int32, z = g343250 + Int32.ofInt (-1) := ⟨_, rfl⟩
                    have ez343278 : z343278.toInt = g343250.toInt + (-1) := gI_inc hz343278 (by decide) bg343250' (by decide) (by decide)
                    have bz343278 : gB z343278 0 1999 := ⟨by omega, by omega⟩
                    refine G_iinc (L' := [(2, .int z343278), (3, .int g343249), (0, .ref q335094), (1, .int p335095)]) z343278 1 dr_cX17_colours_148 rfl hz343278.symm (Nat.le_of_ble_eq_true rfl) rfl ?_
                    refine G_aload_n 2 dr_cX17_colours_151 rfl ?_
                    refine Gp_get 15 hm343262 he343261 dr_cX17_colours_152 (gk_X17 D I) (Nat.le_of_ble_eq_true rfl) wr_7_89 rfl ?_
                    refine G_iload_n 0 dr_cX17_colours_155 rfl ?_
                    refine Gp_iald 0 hm343268 he343269 dr_cX17_colours_156 rfl (gB_in bz343278 (by decide) (by decide)) (G_nam fun z343279 hz343279 => ?_)
                    have bz343279 : gB z343279 0 1999 := by rw [hz343279]; exact bf343270 _
                    refine G_istore (L' := [(4, .int z343279), (2, .int z343278), (3, .int g343249), (0, .ref q335094), (1, .int p335095)]) dr_cX17_colours_157 (Nat.le_of_ble_eq_true rfl) rfl ?_
                    refine G_lconst 0 dr_cX17_colours_159 rfl ?_
                    refine G_lstore (L' := [(5, .long 0), (4, .int z343279), (2, .int z343278), (3, .int g343249), (0, .ref q335094), (1, .int p335095)]) dr_cX17_colours_160 (Nat.le_of_ble_eq_true rfl) rfl ?_
                    refine G_iconst 0 dr_cX17_colours_162 (by decide +kernel) ?_
                    refine G_istore (L' := [(7, .int 0), (5, .long 0), (4, .int z343279), (2, .int z343278), (3, .int g343249), (0, .ref q335094), (1, .int p335095)]) dr_cX17_colours_163 (Nat.le_of_ble_eq_true rfl) rfl ?_
                    have hlp165_343351 : ∀ (n165_343351 : Nat) (g343349 : Int32) (gl343350 : Int64), gB g343349 0 2000 → lb_Q gl343350 (32) → ((2001 : Int) - g343349.toInt).toNat < n165_343351 → G (gV D I) l (gRm 2 43 0 0) (gMA (gV D I) (pt_335096_SpillForgeModel_colours D I γ el P335092 F335093 q335094 p335095) gNA 0 0) ky_335096_SpillForgeModel_colours 165 [(7, .int g343349), (5, .long gl343350), (4, .int z343279), (2, .int z343278), (3, .int g343249), (0, .ref q335094), (1, .int p335095)] [] (va_pl P335092 F343251) 0 0 := by
                      intro n165_343351
                      induction n165_343351 with
                      | zero => intro g343349 gl343350 bg343349 x343351 hm165_343351; exact absurd hm165_343351 (Nat.not_lt_zero _)
                      | succ n165_343351 ih165_343351 =>
                        intro g343349 gl343350 bg343349 x343351 hm165_343351
                        refine G_iload 0 dr_cX17_colours_165 rfl ?_
                        refine G_sipush 2000 dr_cX17_colours_167 (by decide +kernel) ?_
                        refine G_icmp_ge 218 dr_cX17_colours_170 (by decide +kernel) (fun hc343353 => ?_) (fun hc343353 => ?_)
                        · have r343354 : 2000 ≤ g343349.toInt := gj_leL hc343353 (show Int32.toInt 2000 = 2000 by decide)
                          have bg343349' : gB g343349 2000 2000 := ⟨by omega, by omega⟩
                          refine G_lload 1 dr_cX17_colours_218 rfl ?_
                          refine G_ldc2 (-1) dr_cX17_colours_220 wr_10_188 ?_
                          refine G_lxor dr_cX17_colours_223 (G_namL fun u343355 hu343355 => ?_)
                          refine Gw_callS (As := [.long u343355]) (gV_ok D I) (nzc_Long_numberOfTrailingZeros l hl0 D I P335092 F343251 u343355) dr_cX17_colours_224 ⟨wr_11_1, wr_1_31, wr_11_3, by decide, rfl, (Nat.le_of_ble_eq_true rfl), (Nat.le_of_ble_eq_true rfl)⟩ wr_11_2 (show 0 + 0 ≤ 0 by first | omega | decide) (show 0 + 0 ≤ 0 by first | omega | decide) (Nat.le_of_ble_eq_true rfl) (fun r343359 w343360 dc343356 ds343357 hp343358 => ?_) (fun _ _ _ _ _ z => z.elim)
                          obtain ⟨o343362, rfl, rfl, hdc, hds, hO343361⟩ := hp343358
                          have hO343361 := hO343361 (nz_x hu343355 x343351)
                          have bo343362 : gB o343362 0 63 := ⟨hO343361.1, hO343361.2.1⟩
                          change G _ _ _ _ _ _ _ (.int o343362 :: _) _ _ _
                          refine G_widen (cs' := 0) (sl' := 0) (by omega) (by omega) ?_
                          refine G_istore (L' := [(7, .int o343362), (5, .long gl343350), (4, .int z343279), (2, .int z343278), (3, .int g343249), (0, .ref q335094), (1, .int p335095)]) dr_cX17_colours_227 (Nat.le_of_ble_eq_true rfl) rfl ?_
                          refine G_iload 0 dr_cX17_colours_229 rfl ?_
                          refine G_iload_n 6 dr_cX17_colours_231 rfl ?_
                          refine G_icmp_ge 247 dr_cX17_colours_232 (by decide +kernel) (fun hc343363 => ?_) (fun hc343363 => ?_)
                          · have r343364 : p335095.toInt ≤ o343362.toInt := gC_le hc343363
                            have bo343362' : gB o343362 1 63 := ⟨by omega, by omega⟩
                            have bg343249' : gB g343249 0 1999 := ⟨by omega, by omega⟩
                            obtain ⟨z343365, hz343365⟩ : ∃ z : Int32, z = g343249 + Int32.ofInt 1 := ⟨_, rfl⟩
                            have ez343365 : z343365.toInt = g343249.toInt + 1 := gI_inc hz343365 (by decide) bg343249' (by decide) (by decide)
                            have bz343365 : gB z343365 1 2000 := ⟨by omega, by omega⟩
                            refine G_iinc (L' := [(3, .int z343365), (7, .int o343362), (5, .long gl343350), (4, .int z343279), (2, .int z343278), (0, .ref q335094), (1, .int p335095)]) z343365 4 dr_cX17_colours_247 rfl hz343365.symm (Nat.le_of_ble_eq_true rfl) rfl ?_
                            refine G_goto 144 dr_cX17_colours_250 (by decide +kernel) ?_
                            refine G_lv (L' := [(3, .int z343365), (2, .int z343278), (0, .ref q335094), (1, .int p335095)]) [0, 4, 5, 6] rfl ?_
                            exact ih144_343257 F343251 z343365 z343278 (gB_w bz343365 (by decide) (by decide)) (gB_w bz343278 (by decide) (by decide)) hT343252 hs343253 (fun h0 => absurd h0 (by omega)) (by omega) x343256 x343257 (mz_dn ez343278 (Int.le_trans (by decide) bg343250'.1) hm144_343257)
                          · have r343366 : o343362.toInt < p335095.toInt := gC_nle hc343363
                            have bo343362' : gB o343362 0 31 := ⟨by omega, by omega⟩
                            refine G_aload_n 5 dr_cX17_colours_235 rfl ?_
                            refine Gp_get 17 hm343262 he343261 dr_cX17_colours_236 (gk_X17 D I) (Nat.le_of_ble_eq_true rfl) wr_7_91 rfl ?_
                            refine G_iload 2 dr_cX17_colours_239 rfl ?_
                            refine G_iload 0 dr_cX17_colours_241 rfl ?_
                            refine Gp_iast 0 hm343271 he343272 dr_cX17_colours_243 rfl (gB_in bz343279 (by decide) (by decide)) (fun F343367 e343368 n343369 => ?_)
                            obtain ⟨f343370, hf343370⟩ : ∃ z, z = upd f343273 z343279.toNatClampNeg o343362 := ⟨_, rfl⟩
                            rw [← hf343370] at e343368
                            have he343371 : F343367 q335094 = .inr (22, [.ref (γ 9 0), .ref (γ 9 1), .ref (γ 9 2), .ref (γ 9 3), .ref (γ 9 4), .ref (γ 9 5), .ref (γ 9 6), .ref (γ 9 7), .ref (γ 9 8), .int p335101, .int p335102, .int p335103, .int p335104, .int p335105, .int p335106, .ref (γ 9 15), .ref (γ 9 16), .ref (γ 9 17), .ref (γ 9 18), .ref (γ 9 19), .ref (γ 9 20), .ref (γ 9 21), .ref (γ 9 22), .int p335107, .int p335108, .int p335109, .int p335110, .int p335111, .ref q335099, .ref (γ 9 29), .int p335112, .ref (γ 9 31), .int p335113, .int p335114, .int p335115, .ref q335100]) := (n343369 q335094 (rn_oa he343261 he343272)).trans he343261
                            have he343372 : F343367 (γ 9 3) = .inl (I .boolean, 2000, .inl f335146) := (n343369 (γ 9 3) (rn_ty ht335121 ht335129 (by decide))).trans he343263
                            have he343373 : F343367 (γ 9 18) = .inl (I .boolean, 2000, .inl f343267) := (n343369 (γ 9 18) (rn_ty ht335130 ht335129 (by decide))).trans he343266
                            have he343374 : F343367 (γ 9 15) = .inl (I .int, 2000, .inl f343270) := (n343369 (γ 9 15) (rn_ty ht335127 ht335129 (by decide))).trans he343269
                            have he343375 : F343367 (γ 9 17) = .inl (I .int, 2000, .inl f343370) := e343368
                            have hs343376 : rStr γ [] F335093 F343367 := rStr_put hs343253 n343369 ht335129 (by decide)
                            have kp343377 : F343367 q335094 = F335093 q335094 := (n343369 q335094 (rn_ty htq335094 ht335129 (by decide))).trans x343256
                            have kp343378 : F343367 (γ 9 3) = F335093 (γ 9 3) := (n343369 (γ 9 3) (rn_ty ht335121 ht335129 (by decide))).trans x343257
                            have bf343370 : gF f343370 (-1) 31 := gF_upd hf343370 bf343273 (gB_w bo343362' (by decide) (by decide))
                            refine G_goto 250 dr_cX17_colours_244 (by decide +kernel) ?_
                            refine G_goto 144 dr_cX17_colours_250 (by decide +kernel) ?_
                            have hT343379 : RS D I P335092 F343367 γ el := RS_set hT343252 n343369 ht335129 (by decide) ⟨f343370, he343375, bf343370⟩
                            refine G_lv (L' := [(3, .int g343249), (2, .int z343278), (0, .ref q335094), (1, .int p335095)]) [4, 3, 5, 6] rfl ?_
                            exact ih144_343257 F343367 g343249 z343278 bg343249 (gB_w bz343278 (by decide) (by decide)) hT343379 hs343376 (by rw [cB_of he343372, cB_of he343374, cB_of he343375]; exact fun h0 => co_u hz343279 hf343370 (by omega) (by omega) (by omega) (cq343274 h0)) (by omega) kp343377 kp343378 (mz_dn ez343278 (Int.le_trans (by decide) bg343250'.1) hm144_343257)
                        · have r343380 : g343349.toInt < 2000 := gj_nleL hc343353 (show Int32.toInt 2000 = 2000 by decide)
                          have bg343349' : gB g343349 0 1999 := ⟨by omega, by omega⟩
                          refine G_aload_n 5 dr_cX17_colours_173 rfl ?_
                          refine Gp_get 17 hm343262 he343261 dr_cX17_colours_174 (gk_X17 D I) (Nat.le_of_ble_eq_true rfl) wr_7_91 rfl ?_
                          refine G_iload 0 dr_cX17_colours_177 rfl ?_
                          refine Gp_iald 0 hm343271 he343272 dr_cX17_colours_179 rfl (gB_in bg343349' (by decide) (by decide)) (G_nam fun z343381 hz343381 => ?_)
                          have bz343381 : gB z343381 (-1) 31 := by rw [hz343381]; exact bf343273 _
                          refine G_if_lt 212 dr_cX17_colours_180 (by decide +kernel) (fun hc343382 => ?_) (fun hc343382 => ?_)
                          · have r343383 : z343381.toInt < 0 := gj_lt hc343382 (show Int32.toInt 0 = 0 by decide)
                            have bz343381' : gB z343381 (-1) (-1) := ⟨by omega, by omega⟩
                            obtain ⟨z343384, hz343384⟩ : ∃ z : Int32, z = g343349 + Int32.ofInt 1 := ⟨_, rfl⟩
                            have ez343384 : z343384.toInt = g343349.toInt + 1 := gI_inc hz343384 (by decide) bg343349' (by decide) (by decide)
                            have bz343384 : gB z343384 1 2000 := ⟨by omega, by omega⟩
                            refine G_iinc (L' := [(7, .int z343384), (5, .long gl343350), (4, .int z343279), (2, .int z343278), (3, .int g343249), (0, .ref q335094), (1, .int p335095)]) z343384 0 dr_cX17_colours_212 rfl hz343384.symm (Nat.le_of_ble_eq_true rfl) rfl ?_
                            refine G_goto 165 dr_cX17_colours_215 (by decide +kernel) ?_
                            exact ih165_343351 z343384 gl343350 (gB_w bz343384 (by decide) (by decide)) x343351 (mz_up ez343384 (Int.le_trans bg343349'.2 (by decide)) hm165_343351)
                          · have r343385 : 0 ≤ z343381.toInt := gj_nlt hc343382 (show Int32.toInt 0 = 0 by decide)
                            have bz343381' : gB z343381 0 31 := ⟨by omega, by omega⟩
                            refine G_aload_n 5 dr_cX17_colours_183 rfl ?_
                            refine Gp_get 1 hm343262 he343261 dr_cX17_colours_184 (gk_X17 D I) (Nat.le_of_ble_eq_true rfl) wr_7_75 rfl ?_
                            refine G_iload 2 dr_cX17_colours_187 rfl ?_
                            have hm343386 : (γ 9 1) ∈ P335092 := RS_m hT343252 ht335119 (by decide)
                            obtain ⟨f343388, he343387, hg343389⟩ := show rk_13 I γ (F343251 (γ 9 1)) from RS_o hT343252 ht335119
                            obtain ⟨q343390, hx343392⟩ : ∃ x, x = γ 11 z343279.toInt.toNat := ⟨_, rfl⟩
                            have ht343391 : rKd γ q343390 36 := by rw [hx343392]; exact (hg343389 _ (show z343279.toInt.toNat < 2000 by omega)).2.1
                            refine Gp_aald 5 hm343386 he343387 dr_cX17_colours_189 rfl rfl (gB_in bz343279 (by decide) (by decide)) ?_
                            rw [show f343388 z343279.toNatClampNeg = some q343390 from (hg343389 _ (show z343279.toInt.toNat < 2000 by omega)).1.trans (by rw [hx343392])]
                            change G _ _ _ _ _ _ _ (.ref q343390 :: _) _ _ _
                            refine G_iload 0 dr_cX17_colours_190 rfl ?_
                            have hm343393 : q343390 ∈ P335092 := RS_m hT343252 ht343391 (by decide)
                            obtain ⟨f343395, he343394, wf343395⟩ := show rk_36 I (F343251 q343390) from RS_o hT343252 ht343391
                            refine Gw_callS (As := [.ref q343390, .int g343349]) (gV_ok D I) (cp_1845_SpillForgeModel_has l hl0 D I P335092 F343251 q343390 g343349 f343395 hm343393 he343394 (gB_w bg343349' (by decide) (by decide))) dr_cX17_colours_192 ⟨wr_10_203, wr_1_14, wr_10_205, by decide, rfl, (Nat.le_of_ble_eq_true rfl), (Nat.le_of_ble_eq_true rfl)⟩ wr_10_204 (show 0 + 0 ≤ 0 by first | omega | decide) (show 0 + 0 ≤ 0 by first | omega | decide) (Nat.le_of_ble_eq_true rfl) (fun r343399 w343400 dc343396 ds343397 hp343398 => ?_) (fun _ _ _ _ _ z => z.elim)
                            rcases hp343398 with ⟨z343401, z343402, rfl, rfl, hdc, hds, r343403, r343404, r343405, r343406, r343407⟩ | ⟨z343408, z343409, rfl, rfl, hdc, hds, r343410, r343411, r343412, r343413, r343414⟩
                            · change G _ _ _ _ _ _ _ (.int 0 :: _) _ _ _
                              refine G_widen (cs' := 0) (sl' := 0) (by omega) (by omega) ?_
                              refine G_if_eq 212 dr_cX17_colours_195 (by decide +kernel) (fun _ => ?_) (fun hc => absurd hc (by decide))
                              obtain ⟨z343416, hz343416⟩ : ∃ z : Int32, z = g343349 + Int32.ofInt 1 := ⟨_, rfl⟩
                              have ez343416 : z343416.toInt = g343349.toInt + 1 := gI_inc hz343416 (by decide) bg343349' (by decide) (by decide)
                              have bz343416 : gB z343416 1 2000 := ⟨by omega, by omega⟩
                              refine G_iinc (L' := [(7, .int z343416), (5, .long gl343350), (4, .int z343279), (2, .int z343278), (3, .int g343249), (0, .ref q335094), (1, .int p335095)]) z343416 0 dr_cX17_colours_212 rfl hz343416.symm (Nat.le_of_ble_eq_true rfl) rfl ?_
                              refine G_goto 165 dr_cX17_colours_215 (by decide +kernel) ?_
                              exact ih165_343351 z343416 gl343350 (gB_w bz343416 (by decide) (by decide)) x343351 (mz_up ez343416 (Int.le_trans bg343349'.2 (by decide)) hm165_343351)
                            · change G _ _ _ _ _ _ _ (.int 1 :: _) _ _ _
                              refine G_widen (cs' := 0) (sl' := 0) (by omega) (by omega) ?_
                              refine G_if_eq 212 dr_cX17_colours_195 (by decide +kernel) (fun hc => absurd hc (by decide)) (fun _ => ?_)
                              refine G_lload 1 dr_cX17_colours_198 rfl ?_
                              refine G_lconst 1 dr_cX17_colours_200 rfl ?_
                              refine G_aload_n 5 dr_cX17_colours_201 rfl ?_
                              refine Gp_get 17 hm343262 he343261 dr_cX17_colours_202 (gk_X17 D I) (Nat.le_of_ble_eq_true rfl) wr_7_91 rfl ?_
                              refine G_iload 0 dr_cX17_colours_205 rfl ?_
                              refine Gp_iald 0 hm343271 he343272 dr_cX17_colours_207 rfl (gB_in bg343349' (by decide) (by decide)) (G_eqi (y := z343381) hz343381.symm ?_)
                              refine G_lshl dr_cX17_colours_208 (G_namL fun u343417 hu343417 => ?_)
                              have qu343417 : lb_Q u343417 (z343381.toInt % 64 + 1) := lb_Qshl hu343417 (by omega)
                              refine G_lor dr_cX17_colours_209 (G_namL fun u343418 hu343418 => ?_)
                              have qu343418 : lb_Q u343418 (32) := lb_Qor hu343418 x343351 (lb_Qw qu343417 (by omega))
                              refine G_lstore (L' := [(5, .long u343418), (7, .int g343349), (4, .int z343279), (2, .int z343278), (3, .int g343249), (0, .ref q335094), (1, .int p335095)]) dr_cX17_colours_210 (Nat.le_of_ble_eq_true rfl) rfl ?_
                              obtain ⟨z343419, hz343419⟩ : ∃ z : Int32, z = g343349 + Int32.ofInt 1 := ⟨_, rfl⟩
                              have ez343419 : z343419.toInt = g343349.toInt + 1 := gI_inc hz343419 (by decide) bg343349' (by decide) (by decide)
                              have bz343419 : gB z343419 1 2000 := ⟨by omega, by omega⟩
                              refine G_iinc (L' := [(7, .int z343419), (5, .long u343418), (4, .int z343279), (2, .int z343278), (3, .int g343249), (0, .ref q335094), (1, .int p335095)]) z343419 1 dr_cX17_colours_212 rfl hz343419.symm (Nat.le_of_ble_eq_true rfl) rfl ?_
                              refine G_goto 165 dr_cX17_colours_215 (by decide +kernel) ?_
                              exact ih165_343351 z343419 u343418 (gB_w bz343419 (by decide) (by decide)) qu343418 (mz_up ez343419 (Int.le_trans bg343349'.2 (by decide)) hm165_343351)
                    exact hlp165_343351 (((2001 : Int) - 0).toNat + 1) 0 0 (gB_w (gBl (show Int32.toInt 0 = 0 by decide)) (by decide) (by decide)) lb_Q0 (Nat.lt_succ_self _)
              exact hlp144_343257 (((g343052.toInt : Int) - (-1)).toNat + 1) F343053 0 g343052 (gB_w (gBl (show Int32.toInt 0 = 0 by decide)) (by decide) (by decide)) bg343052 hT343054 hs343055 (by rw [cB_of he343067, cB_of he343073, cB_of he343076]; exact fun _ m s => Or.inl ((cq343078 m s).resolve_left (cq343081 (by omega) m))) (by have qa0 : Int32.toInt 0 = 0 := (by decide); omega) x343060 x343061 (Nat.lt_succ_self _)
            · have r343420 : 0 ≤ g343051.toInt := gj_nlt hc343082 (show Int32.toInt 0 = 0 by decide)
              have bg343051' : gB g343051 0 1999 := ⟨by omega, by omega⟩
              have r343421 := rcn_pos (cq343080 (by omega))
              have r343422 := cq343079
              have bg343052' : gB g343052 0 1999 := ⟨by omega, by omega⟩
              refine G_aload_n 2 dr_cX17_colours_74 rfl ?_
              refine Gp_get 15 hm343066 he343065 dr_cX17_colours_75 (gk_X17 D I) (Nat.le_of_ble_eq_true rfl) wr_7_89 rfl ?_
              refine G_iload_n 1 dr_cX17_colours_78 rfl ?_
              refine G_iload_n 0 dr_cX17_colours_79 rfl ?_
              refine Gp_iast 0 hm343072 he343073 dr_cX17_colours_80 rfl (gB_in bg343052' (by decide) (by decide)) (fun F343423 e343424 n343425 => ?_)
              obtain ⟨f343426, hf343426⟩ : ∃ z, z = upd f343074 g343052.toNatClampNeg g343051 := ⟨_, rfl⟩
              rw [← hf343426] at e343424
              have he343427 : F343423 q335094 = .inr (22, [.ref (γ 9 0), .ref (γ 9 1), .ref (γ 9 2), .ref (γ 9 3), .ref (γ 9 4), .ref (γ 9 5), .ref (γ 9 6), .ref (γ 9 7), .ref (γ 9 8), .int p335101, .int p335102, .int p335103, .int p335104, .int p335105, .int p335106, .ref (γ 9 15), .ref (γ 9 16), .ref (γ 9 17), .ref (γ 9 18), .ref (γ 9 19), .ref (γ 9 20), .ref (γ 9 21), .ref (γ 9 22), .int p335107, .int p335108, .int p335109, .int p335110, .int p335111, .ref q335099, .ref (γ 9 29), .int p335112, .ref (γ 9 31), .int p335113, .int p335114, .int p335115, .ref q335100]) := (n343425 q335094 (rn_oa he343065 he343073)).trans he343065
              have he343428 : F343423 (γ 9 3) = .inl (I .boolean, 2000, .inl f335146) := (n343425 (γ 9 3) (rn_ty ht335121 ht335127 (by decide))).trans he343067
              have he343429 : F343423 (γ 9 18) = .inl (I .boolean, 2000, .inl f343071) := (n343425 (γ 9 18) (rn_ty ht335130 ht335127 (by decide))).trans he343070
              have he343430 : F343423 (γ 9 17) = .inl (I .int, 2000, .inl f343077) := (n343425 (γ 9 17) (rn_ty ht335129 ht335127 (by decide))).trans he343076
              have he343431 : F343423 (γ 9 15) = .inl (I .int, 2000, .inl f343426) := e343424
              have hs343432 : rStr γ [] F335093 F343423 := rStr_put hs343055 n343425 ht335127 (by decide)
              have kp343433 : F343423 q335094 = F335093 q335094 := (n343425 q335094 (rn_ty htq335094 ht335127 (by decide))).trans x343060
              have kp343434 : F343423 (γ 9 3) = F335093 (γ 9 3) := (n343425 (γ 9 3) (rn_ty ht335121 ht335127 (by decide))).trans x343061
              have bf343426 : gF f343426 0 1999 := gF_upd hf343426 bf343074 bg343051'
              obtain ⟨z343435, hz343435⟩ : ∃ z : Int32, z = g343052 + Int32.ofInt 1 := ⟨_, rfl⟩
              have ez343435 : z343435.toInt = g343052.toInt + 1 := gI_inc hz343435 (by decide) bg343052' (by decide) (by decide)
              have bz343435 : gB z343435 1 2000 := ⟨by omega, by omega⟩
              refine G_iinc (L' := [(2, .int z343435), (3, .int g343051), (0, .ref q335094), (1, .int p335095)]) z343435 1 dr_cX17_colours_81 rfl hz343435.symm (Nat.le_of_ble_eq_true rfl) rfl ?_
              refine G_aload_n 2 dr_cX17_colours_84 rfl ?_
              refine Gp_get 18 hm343066 he343427 dr_cX17_colours_85 (gk_X17 D I) (Nat.le_of_ble_eq_true rfl) wr_7_92 rfl ?_
              refine G_iload_n 1 dr_cX17_colours_88 rfl ?_
              refine G_iconst 0 dr_cX17_colours_89 (by decide +kernel) ?_
              have hT343436 : RS D I P335092 F343423 γ el := RS_set hT343054 n343425 ht335127 (by decide) ⟨f343426, he343431, bf343426⟩
              refine Gp_zast 3 hm343069 he343429 dr_cX17_colours_90 rfl (gB_in bg343051' (by decide) (by decide)) (fun F343437 e343438 n343439 => ?_)
              obtain ⟨f343440, hf343440⟩ : ∃ z, z = upd f343071 g343051.toNatClampNeg (vp_nar .boolean 0) := ⟨_, rfl⟩
              rw [← hf343440] at e343438
              have he343441 : F343437 q335094 = .inr (22, [.ref (γ 9 0), .ref (γ 9 1), .ref (γ 9 2), .ref (γ 9 3), .ref (γ 9 4), .ref (γ 9 5), .ref (γ 9 6), .ref (γ 9 7), .ref (γ 9 8), .int p335101, .int p335102, .int p335103, .int p335104, .int p335105, .int p335106, .ref (γ 9 15), .ref (γ 9 16), .ref (γ 9 17), .ref (γ 9 18), .ref (γ 9 19), .ref (γ 9 20), .ref (γ 9 21), .ref (γ 9 22), .int p335107, .int p335108, .int p335109, .int p335110, .int p335111, .ref q335099, .ref (γ 9 29), .int p335112, .ref (γ 9 31), .int p335113, .int p335114, .int p335115, .ref q335100]) := (n343439 q335094 (rn_oa he343427 he343429)).trans he343427
              have he343442 : F343437 (γ 9 3) = .inl (I .boolean, 2000, .inl f335146) := (n343439 (γ 9 3) (rn_ty ht335121 ht335130 (by decide))).trans he343428
              have he343443 : F343437 (γ 9 15) = .inl (I .int, 2000, .inl f343426) := (n343439 (γ 9 15) (rn_ty ht335127 ht335130 (by decide))).trans he343431
              have he343444 : F343437 (γ 9 17) = .inl (I .int, 2000, .inl f343077) := (n343439 (γ 9 17) (rn_ty ht335129 ht335130 (by decide))).trans he343430
              have he343445 : F343437 (γ 9 18) = .inl (I .boolean, 2000, .inl f343440) := e343438
              have hs343446 : rStr γ [] F335093 F343437 := rStr_put hs343432 n343439 ht335130 (by decide)
              have kp343447 : F343437 q335094 = F335093 q335094 := (n343439 q335094 (rn_ty htq335094 ht335130 (by decide))).trans kp343433
              have kp343448 : F343437 (γ 9 3) = F335093 (γ 9 3) := (n343439 (γ 9 3) (rn_ty ht335121 ht335130 (by decide))).trans kp343434
              have bf343440 : gF f343440 0 1 := gF_upd hf343440 bf343071 (gB_w (gBl (show Int32.toInt 0 = 0 by decide)) (by decide) (by decide))
              have hT343450 : RS D I P335092 F343437 γ el := RS_set hT343436 n343439 ht335130 (by decide) ⟨f343440, he343445, bf343440⟩
              have td343449 := th_d hf343440 (by omega) (cq343080 (by omega))
              refine G_iconst 0 dr_cX17_colours_91 (by decide +kernel) ?_
              refine G_istore (L' := [(4, .int 0), (2, .int z343435), (3, .int g343051), (0, .ref q335094), (1, .int p335095)]) dr_cX17_colours_92 (Nat.le_of_ble_eq_true rfl) rfl ?_
              have hlp94_343542 : ∀ (n94_343542 : Nat) (F343535 : Nat → va_E) (g343534 : Int32), gB g343534 0 2000 → RS D I P335092 F343535 γ el → rStr γ [] F335093 F343535 → (∀ m : Nat, rSd (cB (F343535 (γ 9 3))) m → rSd (cB (F343535 (γ 9 18))) m ∨ ∃ i : Nat, (i : Int) < z343435.toInt ∧ (cB (F343535 (γ 9 15)) i).toInt = m) → (rcn (cB (F343535 (γ 9 18))) 2000 + (z343435.toInt : Int).toNat ≤ 2000) → (rcn (cB (F343535 (γ 9 18))) 2000 + 1 ≤ rcn (cB (F343053 (γ 9 18))) 2000) → (F343535 q335094 = F335093 q335094) → (F343535 (γ 9 3) = F335093 (γ 9 3)) → ((2001 : Int) - g343534.toInt).toNat < n94_343542 → G (gV D I) l (gRm 2 43 0 0) (gMA (gV D I) (pt_335096_SpillForgeModel_colours D I γ el P335092 F335093 q335094 p335095) gNA 0 0) ky_335096_SpillForgeModel_colours 94 [(4, .int g343534), (2, .int z343435), (3, .int g343051), (0, .ref q335094), (1, .int p335095)] [] (va_pl P335092 F343535) 0 0 := by
                intro n94_343542
                induction n94_343542 with
                | zero => intro F343535 g343534 bg343534 hT343536 hs343537 x343538 x343539 x343540 x343541 x343542 hm94_343542; exact absurd hm94_343542 (Nat.not_lt_zero _)
                | succ n94_343542 ih94_343542 =>
                  intro F343535 g343534 bg343534 hT343536 hs343537 x343538 x343539 x343540 x343541 x343542 hm94_343542
                  have hs343544 : rStr γ [] F343437 F343535 := fun b h0 hb hw => (hs343537 b h0 hb hw).trans (hs343446 b h0 hb hw).symm
                  have hs343545 : rStr γ [] F335093 F343535 := rStr_tr hs343446 hs343544
                  have he343546 : F343535 q335094 = .inr (22, [.ref (γ 9 0), .ref (γ 9 1), .ref (γ 9 2), .ref (γ 9 3), .ref (γ 9 4), .ref (γ 9 5), .ref (γ 9 6), .ref (γ 9 7), .ref (γ 9 8), .int p335101, .int p335102, .int p335103, .int p335104, .int p335105, .int p335106, .ref (γ 9 15), .ref (γ 9 16), .ref (γ 9 17), .ref (γ 9 18), .ref (γ 9 19), .ref (γ 9 20), .ref (γ 9 21), .ref (γ 9 22), .int p335107, .int p335108, .int p335109, .int p335110, .int p335111, .ref q335099, .ref (γ 9 29), .int p335112, .ref (γ 9 31), .int p335113, .int p335114, .int p335115, .ref q335100]) := x343541.trans he335098
                  have hm343547 : q335094 ∈ P335092 := RS_m hT343536 htq335094 (by decide)
                  have he343548 : F343535 (γ 9 3) = .inl (I .boolean, 2000, .inl f335146) := x343542.trans he335145
                  have hm343549 : (γ 9 3) ∈ P335092 := RS_m hT343536 ht335121 (by decide)
                  have hm343550 : (γ 9 18) ∈ P335092 := RS_m hT343536 ht335130 (by decide)
                  obtain ⟨f343552, he343551, bf343552⟩ := show rk_15 I (F343535 (γ 9 18)) from RS_o hT343536 ht335130
                  have hm343553 : (γ 9 15) ∈ P335092 := RS_m hT343536 ht335127 (by decide)
                  obtain ⟨f343555, he343554, bf343555⟩ := show rk_18 I (F343535 (γ 9 15)) from RS_o hT343536 ht335127
                  have hm343556 : (γ 9 17) ∈ P335092 := RS_m hT343536 ht335129 (by decide)
                  obtain ⟨f343558, he343557, bf343558⟩ := show rk_20 I (F343535 (γ 9 17)) from RS_o hT343536 ht335129
                  have cq343559 := x343538
                  rw [cB_of he343548, cB_of he343551, cB_of he343554] at cq343559
                  have cq343560 := x343539
                  rw [cB_of he343551] at cq343560
                  have cq343561 := x343540
                  rw [cB_of he343551] at cq343561
                  refine G_iload 0 dr_cX17_colours_94 rfl ?_
                  refine G_sipush 2000 dr_cX17_colours_96 (by decide +kernel) ?_
                  refine G_icmp_ge 133 dr_cX17_colours_99 (by decide +kernel) (fun hc343562 => ?_) (fun hc343562 => ?_)
                  · have r343563 : 2000 ≤ g343534.toInt := gj_leL hc343562 (show Int32.toInt 2000 = 2000 by decide)
                    have bg343534' : gB g343534 2000 2000 := ⟨by omega, by omega⟩
                    refine G_aload_n 3 dr_cX17_colours_133 rfl ?_
                    refine G_iload_n 4 dr_cX17_colours_134 rfl ?_
                    refine Gw_callV (As := [.int p335095]) (gV_ok D I) (ct_335892_SpillForgeModel_next l hl0 D I γ el P335092 F343535 q335094 p335095 hT343536 htq335094) dr_cX17_colours_135 ⟨wr_11_51, wr_1_14, wr_11_54, by decide, rfl, (Nat.le_of_ble_eq_true rfl), (Nat.le_of_ble_eq_true rfl)⟩ wr_11_53 wr_p_107 hm343547 he343546 rfl (show 0 + 0 ≤ 0 by first | omega | decide) (show 0 + 0 ≤ 0 by first | omega | decide) (Nat.le_of_ble_eq_true rfl) (fun r343567 w343568 dc343564 ds343565 hp343566 => ?_) (fun _ _ _ _ _ z => z.elim)
                    obtain ⟨o343569, rfl, rfl, hdc, hds, bo343569, x343570, x343571⟩ := hp343566
                    change G _ _ _ _ _ _ _ (.int o343569 :: _) _ _ _
                    refine G_widen (cs' := 0) (sl' := 0) (by omega) (by omega) ?_
                    refine G_istore_n (L' := [(3, .int o343569), (4, .int g343534), (2, .int z343435), (0, .ref q335094), (1, .int p335095)]) dr_cX17_colours_138 (Nat.le_of_ble_eq_true rfl) rfl ?_
                    refine G_goto 70 dr_cX17_colours_139 (by decide +kernel) ?_
                    refine G_lv (L' := [(3, .int o343569), (2, .int z343435), (0, .ref q335094), (1, .int p335095)]) [0, 2, 3, 4] rfl ?_
                    exact ih70_343061 F343535 o343569 z343435 bo343569 (gB_w bz343435 (by decide) (by decide)) hT343536 hs343537 (by rw [cB_of he343548, cB_of he343551, cB_of he343554]; exact cq343559) (by rw [cB_of he343551]; exact cq343560) x343570 x343571 x343541 x343542 (by have q := cq343561; rw [cB_of he343070] at q; rw [cB_of he343551]; rw [cB_of he343070] at hm70_343061; omega)
                  · have r343572 : g343534.toInt < 2000 := gj_nleL hc343562 (show Int32.toInt 2000 = 2000 by decide)
                    have bg343534' : gB g343534 0 1999 := ⟨by omega, by omega⟩
                    refine G_aload_n 3 dr_cX17_colours_102 rfl ?_
                    refine Gp_get 1 hm343547 he343546 dr_cX17_colours_103 (gk_X17 D I) (Nat.le_of_ble_eq_true rfl) wr_7_75 rfl ?_
                    refine G_iload_n 2 dr_cX17_colours_106 rfl ?_
                    have hm343573 : (γ 9 1) ∈ P335092 := RS_m hT343536 ht335119 (by decide)
                    obtain ⟨f343575, he343574, hg343576⟩ := show rk_13 I γ (F343535 (γ 9 1)) from RS_o hT343536 ht335119
                    obtain ⟨q343577, hx343579⟩ : ∃ x, x = γ 11 g343051.toInt.toNat := ⟨_, rfl⟩
                    have ht343578 : rKd γ q343577 36 := by rw [hx343579]; exact (hg343576 _ (show g343051.toInt.toNat < 2000 by omega)).2.1
                    refine Gp_aald 5 hm343573 he343574 dr_cX17_colours_107 rfl rfl (gB_in bg343051' (by decide) (by decide)) ?_
                    rw [show f343575 g343051.toNatClampNeg = some q343577 from (hg343576 _ (show g343051.toInt.toNat < 2000 by omega)).1.trans (by rw [hx343579])]
                    change G _ _ _ _ _ _ _ (.ref q343577 :: _) _ _ _
                    refine G_iload 0 dr_cX17_colours_108 rfl ?_
                    have hm343580 : q343577 ∈ P335092 := RS_m hT343536 ht343578 (by decide)
                    obtain ⟨f343582, he343581, wf343582⟩ := show rk_36 I (F343535 q343577) from RS_o hT343536 ht343578
                    refine Gw_callS (As := [.ref q343577, .int g343534]) (gV_ok D I) (cp_1845_SpillForgeModel_has l hl0 D I P335092 F343535 q343577 g343534 f343582 hm343580 he343581 (gB_w bg343534' (by decide) (by decide))) dr_cX17_colours_110 ⟨wr_10_203, wr_1_14, wr_10_205, by decide, rfl, (Nat.le_of_ble_eq_true rfl), (Nat.le_of_ble_eq_true rfl)⟩ wr_10_204 (show 0 + 0 ≤ 0 by first | omega | decide) (show 0 + 0 ≤ 0 by first | omega | decide) (Nat.le_of_ble_eq_true rfl) (fun r343586 w343587 dc343583 ds343584 hp343585 => ?_) (fun _ _ _ _ _ z => z.elim)
                    rcases hp343585 with ⟨z343588, z343589, rfl, rfl, hdc, hds, r343590, r343591, r343592, r343593, r343594⟩ | ⟨z343595, z343596, rfl, rfl, hdc, hds, r343597, r343598, r343599, r343600, r343601⟩
                    · change G _ _ _ _ _ _ _ (.int 0 :: _) _ _ _
                      refine G_widen (cs' := 0) (sl' := 0) (by omega) (by omega) ?_
                      refine G_if_eq 127 dr_cX17_colours_113 (by decide +kernel) (fun _ => ?_) (fun hc => absurd hc (by decide))
                      obtain ⟨z343603, hz343603⟩ : ∃ z : Int32, z = g343534 + Int32.ofInt 1 := ⟨_, rfl⟩
                      have ez343603 : z343603.toInt = g343534.toInt + 1 := gI_inc hz343603 (by decide) bg343534' (by decide) (by decide)
                      have bz343603 : gB z343603 1 2000 := ⟨by omega, by omega⟩
                      refine G_iinc (L' := [(4, .int z343603), (2, .int z343435), (3, .int g343051), (0, .ref q335094), (1, .int p335095)]) z343603 0 dr_cX17_colours_127 rfl hz343603.symm (Nat.le_of_ble_eq_true rfl) rfl ?_
                      refine G_goto 94 dr_cX17_colours_130 (by decide +kernel) ?_
                      exact ih94_343542 F343535 z343603 (gB_w bz343603 (by decide) (by decide)) hT343536 hs343537 (by rw [cB_of he343548, cB_of he343551, cB_of he343554]; exact cq343559) (by rw [cB_of he343551]; exact cq343560) (by rw [cB_of he343551]; exact cq343561) x343541 x343542 (mz_up ez343603 (Int.le_trans bg343534'.2 (by decide)) hm94_343542)
                    · change G _ _ _ _ _ _ _ (.int 1 :: _) _ _ _
                      refine G_widen (cs' := 0) (sl' := 0) (by omega) (by omega) ?_
                      refine G_if_eq 127 dr_cX17_colours_113 (by decide +kernel) (fun hc => absurd hc (by decide)) (fun _ => ?_)
                      refine G_aload_n 3 dr_cX17_colours_116 rfl ?_
                      refine Gp_get 16 hm343547 he343546 dr_cX17_colours_117 (gk_X17 D I) (Nat.le_of_ble_eq_true rfl) wr_7_90 rfl ?_
                      refine G_iload 0 dr_cX17_colours_120 rfl ?_
                      refine G_dup2_11 dr_cX17_colours_122 rfl rfl ?_
                      have hm343604 : (γ 9 16) ∈ P335092 := RS_m hT343536 ht335128 (by decide)
                      obtain ⟨f343606, he343605⟩ := show rk_19 I (F343535 (γ 9 16)) from RS_o hT343536 ht335128
                      refine Gp_iald 0 hm343604 he343605 dr_cX17_colours_123 rfl (gB_in bg343534' (by decide) (by decide)) (G_nam fun z343607 hz343607 => ?_)
                      have bz343607 : gB z343607 (-2147483648) 2147483647 := gB_any z343607
                      refine G_iconst 1 dr_cX17_colours_124 (by decide +kernel) ?_
                      refine G_isub dr_cX17_colours_125 (G_nam fun z343608 hz343608 => ?_)
                      have bz343608 : gB z343608 (-2147483648) 2147483647 := gB_any z343608
                      refine Gp_iast 0 hm343604 he343605 dr_cX17_colours_126 rfl (gB_in bg343534' (by decide) (by decide)) (fun F343609 e343610 n343611 => ?_)
                      obtain ⟨f343612, hf343612⟩ : ∃ z, z = upd f343606 g343534.toNatClampNeg z343608 := ⟨_, rfl⟩
                      rw [← hf343612] at e343610
                      have he343613 : F343609 q335094 = .inr (22, [.ref (γ 9 0), .ref (γ 9 1), .ref (γ 9 2), .ref (γ 9 3), .ref (γ 9 4), .ref (γ 9 5), .ref (γ 9 6), .ref (γ 9 7), .ref (γ 9 8), .int p335101, .int p335102, .int p335103, .int p335104, .int p335105, .int p335106, .ref (γ 9 15), .ref (γ 9 16), .ref (γ 9 17), .ref (γ 9 18), .ref (γ 9 19), .ref (γ 9 20), .ref (γ 9 21), .ref (γ 9 22), .int p335107, .int p335108, .int p335109, .int p335110, .int p335111, .ref q335099, .ref (γ 9 29), .int p335112, .ref (γ 9 31), .int p335113, .int p335114, .int p335115, .ref q335100]) := (n343611 q335094 (rn_oa he343546 he343605)).trans he343546
                      have he343614 : F343609 (γ 9 3) = .inl (I .boolean, 2000, .inl f335146) := (n343611 (γ 9 3) (rn_ty ht335121 ht335128 (by decide))).trans he343548
                      have he343615 : F343609 (γ 9 18) = .inl (I .boolean, 2000, .inl f343552) := (n343611 (γ 9 18) (rn_ty ht335130 ht335128 (by decide))).trans he343551
                      have he343616 : F343609 (γ 9 15) = .inl (I .int, 2000, .inl f343555) := (n343611 (γ 9 15) (rn_ty ht335127 ht335128 (by decide))).trans he343554
                      have he343617 : F343609 (γ 9 17) = .inl (I .int, 2000, .inl f343558) := (n343611 (γ 9 17) (rn_ty ht335129 ht335128 (by decide))).trans he343557
                      have he343618 : F343609 (γ 9 1) = .inl (I (.array .long), 2000, .inr (.inr (.inr (.inr f343575)))) := (n343611 (γ 9 1) (rn_ref_num he343574 he343605)).trans he343574
                      have he343619 : F343609 q343577 = .inl (I .long, 32, .inr (.inl f343582)) := (n343611 q343577 (rn_long_num he343581 he343605)).trans he343581
                      have he343620 : F343609 (γ 9 16) = .inl (I .int, 2000, .inl f343612) := e343610
                      have hs343621 : rStr γ [] F335093 F343609 := rStr_put hs343537 n343611 ht335128 (by decide)
                      have kp343622 : F343609 q335094 = F335093 q335094 := (n343611 q335094 (rn_ty htq335094 ht335128 (by decide))).trans x343541
                      have kp343623 : F343609 (γ 9 3) = F335093 (γ 9 3) := (n343611 (γ 9 3) (rn_ty ht335121 ht335128 (by decide))).trans x343542
                      obtain ⟨z343624, hz343624⟩ : ∃ z : Int32, z = g343534 + Int32.ofInt 1 := ⟨_, rfl⟩
                      have ez343624 : z343624.toInt = g343534.toInt + 1 := gI_inc hz343624 (by decide) bg343534' (by decide) (by decide)
                      have bz343624 : gB z343624 1 2000 := ⟨by omega, by omega⟩
                      refine G_iinc (L' := [(4, .int z343624), (2, .int z343435), (3, .int g343051), (0, .ref q335094), (1, .int p335095)]) z343624 0 dr_cX17_colours_127 rfl hz343624.symm (Nat.le_of_ble_eq_true rfl) rfl ?_
                      refine G_goto 94 dr_cX17_colours_130 (by decide +kernel) ?_
                      have hT343625 : RS D I P335092 F343609 γ el := RS_set hT343536 n343611 ht335128 (by decide) ⟨f343612, he343620⟩
                      exact ih94_343542 F343609 z343624 (gB_w bz343624 (by decide) (by decide)) hT343625 hs343621 (by rw [cB_of he343614, cB_of he343615, cB_of he343616]; exact cq343559) (by rw [cB_of he343615]; exact cq343560) (by rw [cB_of he343615]; exact cq343561) kp343622 kp343623 (mz_up ez343624 (Int.le_trans bg343534'.2 (by decide)) hm94_343542)
              exact hlp94_343542 (((2001 : Int) - 0).toNat + 1) F343437 0 (gB_w (gBl (show Int32.toInt 0 = 0 by decide)) (by decide) (by decide)) hT343450 hs343446 (by rw [ez343435]; rw [cB_of he343442, cB_of he343445, cB_of he343443]; exact pi_u hf343440 hf343426 (by omega) (by omega) cq343078) (by rw [cB_of he343445]; have q := td343449; have q2 := cq343079; omega) (by rw [cB_of he343445]; rw [cB_of he343070]; have q := td343449; omega) kp343447 kp343448 (Nat.lt_succ_self _)
        exact hlp70_343061 ((rcn (cB (F342459 (γ 9 18))) 2000) + 1) F342459 o342489 0 bo342489 (gB_w (gBl (show Int32.toInt 0 = 0 by decide)) (by decide) (by decide)) hT342460 hs342461 (by rw [cB_of he342470, cB_of he342473, cB_of he342476]; exact fun m s => Or.inl (cq342481 m (by have := s.1; omega) s)) (by have q := rcn_le (g := cB (F342459 (γ 9 18))) 2000; have qa : Int32.toInt 0 = 0 := (by decide); omega) x342490 x342491 x342463 x342464 (Nat.lt_succ_self _)
      · have r343626 : g342458.toInt < 2000 := gj_nleL hc342482 (show Int32.toInt 2000 = 2000 by decide)
        have bg342458' : gB g342458 0 1999 := ⟨by omega, by omega⟩
        refine G_aload_n 1 dr_cX17_colours_9 rfl ?_
        refine Gp_get 18 hm342469 he342468 dr_cX17_colours_10 (gk_X17 D I) (Nat.le_of_ble_eq_true rfl) wr_7_92 rfl ?_
        refine G_iload_n 0 dr_cX17_colours_13 rfl ?_
        refine G_aload_n 1 dr_cX17_colours_14 rfl ?_
        refine Gp_get 3 hm342469 he342468 dr_cX17_colours_15 (gk_X17 D I) (Nat.le_of_ble_eq_true rfl) wr_7_77 rfl ?_
        refine G_iload_n 0 dr_cX17_colours_18 rfl ?_
        refine Gp_zald 3 hm342471 he342470 dr_cX17_colours_19 rfl (gB_in bg342458' (by decide) (by decide)) (G_nam fun z343627 hz343627 => ?_)
        have bz343627 : gB z343627 0 1 := by rw [hz343627]; exact bf335146 _
        refine Gp_zast 3 hm342472 he342473 dr_cX17_colours_20 rfl (gB_in bg342458' (by decide) (by decide)) (fun F343628 e343629 n343630 => ?_)
        obtain ⟨f343631, hf343631⟩ : ∃ z, z = upd f342474 g342458.toNatClampNeg (vp_nar .boolean z343627) := ⟨_, rfl⟩
        rw [← hf343631] at e343629
        have he343632 : F343628 q335094 = .inr (22, [.ref (γ 9 0), .ref (γ 9 1), .ref (γ 9 2), .ref (γ 9 3), .ref (γ 9 4), .ref (γ 9 5), .ref (γ 9 6), .ref (γ 9 7), .ref (γ 9 8), .int p335101, .int p335102, .int p335103, .int p335104, .int p335105, .int p335106, .ref (γ 9 15), .ref (γ 9 16), .ref (γ 9 17), .ref (γ 9 18), .ref (γ 9 19), .ref (γ 9 20), .ref (γ 9 21), .ref (γ 9 22), .int p335107, .int p335108, .int p335109, .int p335110, .int p335111, .ref q335099, .ref (γ 9 29), .int p335112, .ref (γ 9 31), .int p335113, .int p335114, .int p335115, .ref q335100]) := (n343630 q335094 (rn_oa he342468 he342473)).trans he342468
        have he343633 : F343628 (γ 9 3) = .inl (I .boolean, 2000, .inl f335146) := (n343630 (γ 9 3) (rn_ty ht335121 ht335130 (by decide))).trans he342470
        have he343634 : F343628 (γ 9 15) = .inl (I .int, 2000, .inl f342477) := (n343630 (γ 9 15) (rn_ty ht335127 ht335130 (by decide))).trans he342476
        have he343635 : F343628 (γ 9 17) = .inl (I .int, 2000, .inl f342480) := (n343630 (γ 9 17) (rn_ty ht335129 ht335130 (by decide))).trans he342479
        have he343636 : F343628 (γ 9 18) = .inl (I .boolean, 2000, .inl f343631) := e343629
        have hs343637 : rStr γ [] F335093 F343628 := rStr_put hs342461 n343630 ht335130 (by decide)
        have kp343638 : F343628 q335094 = F335093 q335094 := (n343630 q335094 (rn_ty htq335094 ht335130 (by decide))).trans x342463
        have kp343639 : F343628 (γ 9 3) = F335093 (γ 9 3) := (n343630 (γ 9 3) (rn_ty ht335121 ht335130 (by decide))).trans x342464
        have bf343631 : gF f343631 0 1 := gF_upd hf343631 bf342474 (gB_nb bz343627)
        refine G_aload_n 1 dr_cX17_colours_21 rfl ?_
        refine Gp_get 16 hm342469 he343632 dr_cX17_colours_22 (gk_X17 D I) (Nat.le_of_ble_eq_true rfl) wr_7_90 rfl ?_
        refine G_iload_n 0 dr_cX17_colours_25 rfl ?_
        refine G_aload_n 1 dr_cX17_colours_26 rfl ?_
        refine Gp_get 3 hm342469 he343632 dr_cX17_colours_27 (gk_X17 D I) (Nat.le_of_ble_eq_true rfl) wr_7_77 rfl ?_
        refine G_iload_n 0 dr_cX17_colours_30 rfl ?_
        refine Gp_zald 3 hm342471 he343633 dr_cX17_colours_31 rfl (gB_in bg342458' (by decide) (by decide)) (G_eqi (y := z343627) hz343627.symm ?_)
        refine G_if_eq 47 dr_cX17_colours_32 (by decide +kernel) (fun hc343640 => ?_) (fun hc343640 => ?_)
        · have r343641 : z343627.toInt = 0 := gj_eq hc343640 (show Int32.toInt 0 = 0 by decide)
          have bz343627' : gB z343627 0 0 := gB_t0 r343641
          refine G_iconst 0 dr_cX17_colours_47 (by decide +kernel) ?_
          have hT343642 : RS D I P335092 F343628 γ el := RS_set hT342460 n343630 ht335130 (by decide) ⟨f343631, he343636, bf343631⟩
          have hm343643 : (γ 9 16) ∈ P335092 := RS_m hT343642 ht335128 (by decide)
          obtain ⟨f343645, he343644⟩ := show rk_19 I (F343628 (γ 9 16)) from RS_o hT343642 ht335128
          refine Gp_iast 0 hm343643 he343644 dr_cX17_colours_48 rfl (gB_in bg342458' (by decide) (by decide)) (fun F343646 e343647 n343648 => ?_)
          obtain ⟨f343649, hf343649⟩ : ∃ z, z = upd f343645 g342458.toNatClampNeg 0 := ⟨_, rfl⟩
          rw [← hf343649] at e343647
          have he343650 : F343646 q335094 = .inr (22, [.ref (γ 9 0), .ref (γ 9 1), .ref (γ 9 2), .ref (γ 9 3), .ref (γ 9 4), .ref (γ 9 5), .ref (γ 9 6), .ref (γ 9 7), .ref (γ 9 8), .int p335101, .int p335102, .int p335103, .int p335104, .int p335105, .int p335106, .ref (γ 9 15), .ref (γ 9 16), .ref (γ 9 17), .ref (γ 9 18), .ref (γ 9 19), .ref (γ 9 20), .ref (γ 9 21), .ref (γ 9 22), .int p335107, .int p335108, .int p335109, .int p335110, .int p335111, .ref q335099, .ref (γ 9 29), .int p335112, .ref (γ 9 31), .int p335113, .int p335114, .int p335115, .ref q335100]) := (n343648 q335094 (rn_oa he343632 he343644)).trans he343632
          have he343651 : F343646 (γ 9 3) = .inl (I .boolean, 2000, .inl f335146) := (n343648 (γ 9 3) (rn_ty ht335121 ht335128 (by decide))).trans he343633
          have he343652 : F343646 (γ 9 18) = .inl (I .boolean, 2000, .inl f343631) := (n343648 (γ 9 18) (rn_ty ht335130 ht335128 (by decide))).trans he343636
          have he343653 : F343646 (γ 9 15) = .inl (I .int, 2000, .inl f342477) := (n343648 (γ 9 15) (rn_ty ht335127 ht335128 (by decide))).trans he343634
          have he343654 : F343646 (γ 9 17) = .inl (I .int, 2000, .inl f342480) := (n343648 (γ 9 17) (rn_ty ht335129 ht335128 (by decide))).trans he343635
          have he343655 : F343646 (γ 9 16) = .inl (I .int, 2000, .inl f343649) := e343647
          have hs343656 : rStr γ [] F335093 F343646 := rStr_put hs343637 n343648 ht335128 (by decide)
          have kp343657 : F343646 q335094 = F335093 q335094 := (n343648 q335094 (rn_ty htq335094 ht335128 (by decide))).trans kp343638
          have kp343658 : F343646 (γ 9 3) = F335093 (γ 9 3) := (n343648 (γ 9 3) (rn_ty ht335121 ht335128 (by decide))).trans kp343639
          refine G_aload_n 1 dr_cX17_colours_49 rfl ?_
          refine Gp_get 17 hm342469 he343650 dr_cX17_colours_50 (gk_X17 D I) (Nat.le_of_ble_eq_true rfl) wr_7_91 rfl ?_
          refine G_iload_n 0 dr_cX17_colours_53 rfl ?_
          refine G_iconst (-1) dr_cX17_colours_54 (by decide +kernel) ?_
          have hT343659 : RS D I P335092 F343646 γ el := RS_set hT343642 n343648 ht335128 (by decide) ⟨f343649, he343655⟩
          refine Gp_iast 0 hm342478 he343654 dr_cX17_colours_55 rfl (gB_in bg342458' (by decide) (by decide)) (fun F343660 e343661 n343662 => ?_)
          obtain ⟨f343663, hf343663⟩ : ∃ z, z = upd f342480 g342458.toNatClampNeg (-1) := ⟨_, rfl⟩
          rw [← hf343663] at e343661
          have he343664 : F343660 q335094 = .inr (22, [.ref (γ 9 0), .ref (γ 9 1), .ref (γ 9 2), .ref (γ 9 3), .ref (γ 9 4), .ref (γ 9 5), .ref (γ 9 6), .ref (γ 9 7), .ref (γ 9 8), .int p335101, .int p335102, .int p335103, .int p335104, .int p335105, .int p335106, .ref (γ 9 15), .ref (γ 9 16), .ref (γ 9 17), .ref (γ 9 18), .ref (γ 9 19), .ref (γ 9 20), .ref (γ 9 21), .ref (γ 9 22), .int p335107, .int p335108, .int p335109, .int p335110, .int p335111, .ref q335099, .ref (γ 9 29), .int p335112, .ref (γ 9 31), .int p335113, .int p335114, .int p335115, .ref q335100]) := (n343662 q335094 (rn_oa he343650 he343654)).trans he343650
          have he343665 : F343660 (γ 9 3) = .inl (I .boolean, 2000, .inl f335146) := (n343662 (γ 9 3) (rn_ty ht335121 ht335129 (by decide))).trans he343651
          have he343666 : F343660 (γ 9 18) = .inl (I .boolean, 2000, .inl f343631) := (n343662 (γ 9 18) (rn_ty ht335130 ht335129 (by decide))).trans he343652
          have he343667 : F343660 (γ 9 15) = .inl (I .int, 2000, .inl f342477) := (n343662 (γ 9 15) (rn_ty ht335127 ht335129 (by decide))).trans he343653
          have he343668 : F343660 (γ 9 16) = .inl (I .int, 2000, .inl f343649) := (n343662 (γ 9 16) (rn_ty ht335128 ht335129 (by decide))).trans he343655
          have he343669 : F343660 (γ 9 17) = .inl (I .int, 2000, .inl f343663) := e343661
          have hs343670 : rStr γ [] F335093 F343660 := rStr_put hs343656 n343662 ht335129 (by decide)
          have kp343671 : F343660 q335094 = F335093 q335094 := (n343662 q335094 (rn_ty htq335094 ht335129 (by decide))).trans kp343657
          have kp343672 : F343660 (γ 9 3) = F335093 (γ 9 3) := (n343662 (γ 9 3) (rn_ty ht335121 ht335129 (by decide))).trans kp343658
          have bf343663 : gF f343663 (-1) 31 := gF_upd hf343663 bf342480 (gB_w (gBl (show Int32.toInt (-1) = (-1) by decide)) (by decide) (by decide))
          obtain ⟨z343673, hz343673⟩ : ∃ z : Int32, z = g342458 + Int32.ofInt 1 := ⟨_, rfl⟩
          have ez343673 : z343673.toInt = g342458.toInt + 1 := gI_inc hz343673 (by decide) bg342458' (by decide) (by decide)
          have bz343673 : gB z343673 1 2000 := ⟨by omega, by omega⟩
          refine G_iinc (L' := [(2, .int z343673), (0, .ref q335094), (1, .int p335095)]) z343673 0 dr_cX17_colours_56 rfl hz343673.symm (Nat.le_of_ble_eq_true rfl) rfl ?_
          refine G_goto 2 dr_cX17_colours_59 (by decide +kernel) ?_
          have hT343674 : RS D I P335092 F343660 γ el := RS_set hT343659 n343662 ht335129 (by decide) ⟨f343663, he343669, bf343663⟩
          exact ih2_342464 F343660 z343673 (gB_w bz343673 (by decide) (by decide)) hT343674 hs343670 (by rw [ez343673]; rw [cB_of he343665, cB_of he343666]; exact th_u hf343631 hz343627 (by assumption) (by omega) cq342481) kp343671 kp343672 (mz_up ez343673 (Int.le_trans bg342458'.2 (by decide)) hm2_342464)
        · have r343675 : z343627.toInt ≠ 0 := gj_neq hc343640 (show Int32.toInt 0 = 0 by decide)
          have bz343627' : gB z343627 1 1 := gB_t1 bz343627 r343675
          refine G_aload_n 1 dr_cX17_colours_35 rfl ?_
          refine Gp_get 1 hm342469 he343632 dr_cX17_colours_36 (gk_X17 D I) (Nat.le_of_ble_eq_true rfl) wr_7_75 rfl ?_
          refine G_iload_n 0 dr_cX17_colours_39 rfl ?_
          have hT343676 : RS D I P335092 F343628 γ el := RS_set hT342460 n343630 ht335130 (by decide) ⟨f343631, he343636, bf343631⟩
          have hm343677 : (γ 9 1) ∈ P335092 := RS_m hT343676 ht335119 (by decide)
          obtain ⟨f343679, he343678, hg343680⟩ := show rk_13 I γ (F343628 (γ 9 1)) from RS_o hT343676 ht335119
          obtain ⟨q343681, hx343683⟩ : ∃ x, x = γ 11 g342458.toInt.toNat := ⟨_, rfl⟩
          have ht343682 : rKd γ q343681 36 := by rw [hx343683]; exact (hg343680 _ (show g342458.toInt.toNat < 2000 by omega)).2.1
          refine Gp_aald 5 hm343677 he343678 dr_cX17_colours_40 rfl rfl (gB_in bg342458' (by decide) (by decide)) ?_
          rw [show f343679 g342458.toNatClampNeg = some q343681 from (hg343680 _ (show g342458.toInt.toNat < 2000 by omega)).1.trans (by rw [hx343683])]
          change G _ _ _ _ _ _ _ (.ref q343681 :: _) _ _ _
          have hm343684 : q343681 ∈ P335092 := RS_m hT343676 ht343682 (by decide)
          obtain ⟨f343686, he343685, wf343686⟩ := show rk_36 I (F343628 q343681) from RS_o hT343676 ht343682
          refine Gw_callS (As := [.ref q343681]) (gV_ok D I) (cp_1899_SpillForgeModel_count l hl0 D I P335092 F343628 q343681 f343686 hm343684 he343685) dr_cX17_colours_41 ⟨wr_11_16, wr_1_14, wr_11_18, by decide, rfl, (Nat.le_of_ble_eq_true rfl), (Nat.le_of_ble_eq_true rfl)⟩ wr_11_17 (show 0 + 0 ≤ 0 by first | omega | decide) (show 0 + 0 ≤ 0 by first | omega | decide) (Nat.le_of_ble_eq_true rfl) (fun r343690 w343691 dc343687 ds343688 hp343689 => ?_) (fun _ _ _ _ _ z => z.elim)
          obtain ⟨o343692, rfl, rfl, hdc, hds, ht343693⟩ := hp343689
          have bo343692 := gB_any o343692
          change G _ _ _ _ _ _ _ (.int o343692 :: _) _ _ _
          refine G_widen (cs' := 0) (sl' := 0) (by omega) (by omega) ?_
          refine G_goto 48 dr_cX17_colours_44 (by decide +kernel) ?_
          have hm343694 : (γ 9 16) ∈ P335092 := RS_m hT343676 ht335128 (by decide)
          obtain ⟨f343696, he343695⟩ := show rk_19 I (F343628 (γ 9 16)) from RS_o hT343676 ht335128
          refine Gp_iast 0 hm343694 he343695 dr_cX17_colours_48 rfl (gB_in bg342458' (by decide) (by decide)) (fun F343697 e343698 n343699 => ?_)
          obtain ⟨f343700, hf343700⟩ : ∃ z, z = upd f343696 g342458.toNatClampNeg o343692 := ⟨_, rfl⟩
          rw [← hf343700] at e343698
          have he343701 : F343697 q335094 = .inr (22, [.ref (γ 9 0), .ref (γ 9 1), .ref (γ 9 2), .ref (γ 9 3), .ref (γ 9 4), .ref (γ 9 5), .ref (γ 9 6), .ref (γ 9 7), .ref (γ 9 8), .int p335101, .int p335102, .int p335103, .int p335104, .int p335105, .int p335106, .ref (γ 9 15), .ref (γ 9 16), .ref (γ 9 17), .ref (γ 9 18), .ref (γ 9 19), .ref (γ 9 20), .ref (γ 9 21), .ref (γ 9 22), .int p335107, .int p335108, .int p335109, .int p335110, .int p335111, .ref q335099, .ref (γ 9 29), .int p335112, .ref (γ 9 31), .int p335113, .int p335114, .int p335115, .ref q335100]) := (n343699 q335094 (rn_oa he343632 he343695)).trans he343632
          have he343702 : F343697 (γ 9 3) = .inl (I .boolean, 2000, .inl f335146) := (n343699 (γ 9 3) (rn_ty ht335121 ht335128 (by decide))).trans he343633
          have he343703 : F343697 (γ 9 18) = .inl (I .boolean, 2000, .inl f343631) := (n343699 (γ 9 18) (rn_ty ht335130 ht335128 (by decide))).trans he343636
          have he343704 : F343697 (γ 9 15) = .inl (I .int, 2000, .inl f342477) := (n343699 (γ 9 15) (rn_ty ht335127 ht335128 (by decide))).trans he343634
          have he343705 : F343697 (γ 9 17) = .inl (I .int, 2000, .inl f342480) := (n343699 (γ 9 17) (rn_ty ht335129 ht335128 (by decide))).trans he343635
          have he343706 : F343697 (γ 9 1) = .inl (I (.array .long), 2000, .inr (.inr (.inr (.inr f343679)))) := (n343699 (γ 9 1) (rn_ref_num he343678 he343695)).trans he343678
          have he343707 : F343697 q343681 = .inl (I .long, 32, .inr (.inl f343686)) := (n343699 q343681 (rn_long_num he343685 he343695)).trans he343685
          have he343708 : F343697 (γ 9 16) = .inl (I .int, 2000, .inl f343700) := e343698
          have hs343709 : rStr γ [] F335093 F343697 := rStr_put hs343637 n343699 ht335128 (by decide)
          have kp343710 : F343697 q335094 = F335093 q335094 := (n343699 q335094 (rn_ty htq335094 ht335128 (by decide))).trans kp343638
          have kp343711 : F343697 (γ 9 3) = F335093 (γ 9 3) := (n343699 (γ 9 3) (rn_ty ht335121 ht335128 (by decide))).trans kp343639
          refine G_aload_n 1 dr_cX17_colours_49 rfl ?_
          refine Gp_get 17 hm342469 he343701 dr_cX17_colours_50 (gk_X17 D I) (Nat.le_of_ble_eq_true rfl) wr_7_91 rfl ?_
          refine G_iload_n 0 dr_cX17_colours_53 rfl ?_
          refine G_iconst (-1) dr_cX17_colours_54 (by decide +kernel) ?_
          have hT343712 : RS D I P335092 F343697 γ el := RS_set hT343676 n343699 ht335128 (by decide) ⟨f343700, he343708⟩
          refine Gp_iast 0 hm342478 he343705 dr_cX17_colours_55 rfl (gB_in bg342458' (by decide) (by decide)) (fun F343713 e343714 n343715 => ?_)
          obtain ⟨f343716, hf343716⟩ : ∃ z, z = upd f342480 g342458.toNatClampNeg (-1) := ⟨_, rfl⟩
          rw [← hf343716] at e343714
          have he343717 : F343713 q335094 = .inr (22, [.ref (γ 9 0), .ref (γ 9 1), .ref (γ 9 2), .ref (γ 9 3), .ref (γ 9 4), .ref (γ 9 5), .ref (γ 9 6), .ref (γ 9 7), .ref (γ 9 8), .int p335101, .int p335102, .int p335103, .int p335104, .int p335105, .int p335106, .ref (γ 9 15), .ref (γ 9 16), .ref (γ 9 17), .ref (γ 9 18), .ref (γ 9 19), .ref (γ 9 20), .ref (γ 9 21), .ref (γ 9 22), .int p335107, .int p335108, .int p335109, .int p335110, .int p335111, .ref q335099, .ref (γ 9 29), .int p335112, .ref (γ 9 31), .int p335113, .int p335114, .int p335115, .ref q335100]) := (n343715 q335094 (rn_oa he343701 he343705)).trans he343701
          have he343718 : F343713 (γ 9 3) = .inl (I .boolean, 2000, .inl f335146) := (n343715 (γ 9 3) (rn_ty ht335121 ht335129 (by decide))).trans he343702
          have he343719 : F343713 (γ 9 18) = .inl (I .boolean, 2000, .inl f343631) := (n343715 (γ 9 18) (rn_ty ht335130 ht335129 (by decide))).trans he343703
          have he343720 : F343713 (γ 9 15) = .inl (I .int, 2000, .inl f342477) := (n343715 (γ 9 15) (rn_ty ht335127 ht335129 (by decide))).trans he343704
          have he343721 : F343713 (γ 9 1) = .inl (I (.array .long), 2000, .inr (.inr (.inr (.inr f343679)))) := (n343715 (γ 9 1) (rn_ref_num he343706 he343705)).trans he343706
          have he343722 : F343713 q343681 = .inl (I .long, 32, .inr (.inl f343686)) := (n343715 q343681 (rn_long_num he343707 he343705)).trans he343707
          have he343723 : F343713 (γ 9 16) = .inl (I .int, 2000, .inl f343700) := (n343715 (γ 9 16) (rn_ty ht335128 ht335129 (by decide))).trans he343708
          have he343724 : F343713 (γ 9 17) = .inl (I .int, 2000, .inl f343716) := e343714
          have hs343725 : rStr γ [] F335093 F343713 := rStr_put hs343709 n343715 ht335129 (by decide)
          have kp343726 : F343713 q335094 = F335093 q335094 := (n343715 q335094 (rn_ty htq335094 ht335129 (by decide))).trans kp343710
          have kp343727 : F343713 (γ 9 3) = F335093 (γ 9 3) := (n343715 (γ 9 3) (rn_ty ht335121 ht335129 (by decide))).trans kp343711
          have bf343716 : gF f343716 (-1) 31 := gF_upd hf343716 bf342480 (gB_w (gBl (show Int32.toInt (-1) = (-1) by decide)) (by decide) (by decide))
          obtain ⟨z343728, hz343728⟩ : ∃ z : Int32, z = g342458 + Int32.ofInt 1 := ⟨_, rfl⟩
          have ez343728 : z343728.toInt = g342458.toInt + 1 := gI_inc hz343728 (by decide) bg342458' (by decide) (by decide)
          have bz343728 : gB z343728 1 2000 := ⟨by omega, by omega⟩
          refine G_iinc (L' := [(2, .int z343728), (0, .ref q335094), (1, .int p335095)]) z343728 0 dr_cX17_colours_56 rfl hz343728.symm (Nat.le_of_ble_eq_true rfl) rfl ?_
          refine G_goto 2 dr_cX17_colours_59 (by decide +kernel) ?_
          have hT343729 : RS D I P335092 F343713 γ el := RS_set hT343712 n343715 ht335129 (by decide) ⟨f343716, he343724, bf343716⟩
          exact ih2_342464 F343713 z343728 (gB_w bz343728 (by decide) (by decide)) hT343729 hs343725 (by rw [ez343728]; rw [cB_of he343718, cB_of he343719]; exact th_u hf343631 hz343627 (by assumption) (by omega) cq342481) kp343726 kp343727 (mz_up ez343728 (Int.le_trans bg342458'.2 (by decide)) hm2_342464)
  exact hlp2_342464 (((2001 : Int) - 0).toNat + 1) F335093 0 (gB_w (gBl (show Int32.toInt 0 = 0 by decide)) (by decide) (by decide)) hT (rStr_rf (γ := γ) (W := []) (F := F335093)) (fun m hm => absurd hm (by have qa : Int32.toInt 0 = 0 := (by decide); omega)) rfl rfl (Nat.lt_succ_self _)
