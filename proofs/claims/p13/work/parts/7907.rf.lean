theorem dr_cX17_colours_0 : decode cX17_colours 0 = .ok (.iconst 0, 1) := by decide +kernel
theorem dr_cX17_colours_1 : decode cX17_colours 1 = .ok (.istore_n 2, 1) := by decide +kernel
theorem dr_cX17_colours_2 : decode cX17_colours 2 = .ok (.iload_n 2, 1) := by decide +kernel
theorem dr_cX17_colours_3 : decode cX17_colours 3 = .ok (.sipush 2000, 3) := by decide +kernel
theorem dr_cX17_colours_6 : decode cX17_colours 6 = .ok (.if_icmp .ge 56, 3) := by decide +kernel
theorem dr_cX17_colours_62 : decode cX17_colours 62 = .ok (.iconst 0, 1) := by decide +kernel
theorem dr_cX17_colours_63 : decode cX17_colours 63 = .ok (.istore_n 2, 1) := by decide +kernel
theorem dr_cX17_colours_64 : decode cX17_colours 64 = .ok (.aload_n 0, 1) := by decide +kernel
theorem dr_cX17_colours_65 : decode cX17_colours 65 = .ok (.iload_n 1, 1) := by decide +kernel
theorem dr_cX17_colours_66 : decode cX17_colours 66 = .ok (.invokevirtual 215, 3) := by decide +kernel
theorem wr_11_51 : (Jvm.Cond.methodLink "SpillForgeModel" (215 : Nat) ({ cls := "SpillForgeModel", name := "next", desc := "(I)I" } : Jvm.MethodName)) ∈ gw := gw_11 51 rfl rfl
theorem wr_11_54 : (Jvm.Cond.code ({ cls := "SpillForgeModel", name := "next", desc := "(I)I" } : Jvm.MethodName) prog_14_method_20_code (7 : Nat) (Option.some Jvm.ClassFile.FieldType.int)) ∈ gw := gw_11 54 rfl rfl
theorem wr_11_53 : (Jvm.Cond.instanceMethod ({ cls := "SpillForgeModel", name := "next", desc := "(I)I" } : Jvm.MethodName)) ∈ gw := gw_11 53 rfl rfl
theorem wr_p_107 : Cond.selects "SpillForgeModel" ⟨"SpillForgeModel", "next", "(I)I"⟩ ⟨"SpillForgeModel", "next", "(I)I"⟩ ∈ gw := gw_p _ 107 rfl rfl rfl
theorem dr_cX17_colours_69 : decode cX17_colours 69 = .ok (.istore_n 3, 1) := by decide +kernel
theorem dr_cX17_colours_70 : decode cX17_colours 70 = .ok (.iload_n 3, 1) := by decide +kernel
theorem dr_cX17_colours_71 : decode cX17_colours 71 = .ok (.ifCond .lt 71, 3) := by decide +kernel
theorem dr_cX17_colours_142 : decode cX17_colours 142 = .ok (.iconst 0, 1) := by decide +kernel
theorem dr_cX17_colours_143 : decode cX17_colours 143 = .ok (.istore_n 3, 1) := by decide +kernel
theorem dr_cX17_colours_144 : decode cX17_colours 144 = .ok (.iload_n 2, 1) := by decide +kernel
theorem dr_cX17_colours_145 : decode cX17_colours 145 = .ok (.ifCond .le 108, 3) := by decide +kernel
theorem dr_cX17_colours_253 : decode cX17_colours 253 = .ok (.iload_n 3, 1) := by decide +kernel
theorem dr_cX17_colours_254 : decode cX17_colours 254 = .ok (.ireturn, 1) := by decide +kernel
theorem dr_cX17_colours_148 : decode cX17_colours 148 = .ok (.iinc 2 (-1), 3) := by decide +kernel
theorem dr_cX17_colours_151 : decode cX17_colours 151 = .ok (.aload_n 0, 1) := by decide +kernel
theorem dr_cX17_colours_152 : decode cX17_colours 152 = .ok (.getfield 218, 3) := by decide +kernel
theorem wr_7_89 : (Jvm.Cond.fieldLink "SpillForgeModel" (218 : Nat) "SpillForgeModel" "pile" "[I") ∈ gw := gw_7 89 rfl rfl
theorem dr_cX17_colours_155 : decode cX17_colours 155 = .ok (.iload_n 2, 1) := by decide +kernel
theorem dr_cX17_colours_156 : decode cX17_colours 156 = .ok (.iaload, 1) := by decide +kernel
theorem dr_cX17_colours_157 : decode cX17_colours 157 = .ok (.istore 4, 2) := by decide +kernel
theorem dr_cX17_colours_159 : decode cX17_colours 159 = .ok (.lconst 0, 1) := by decide +kernel
theorem dr_cX17_colours_160 : decode cX17_colours 160 = .ok (.lstore 5, 2) := by decide +kernel
theorem dr_cX17_colours_162 : decode cX17_colours 162 = .ok (.iconst 0, 1) := by decide +kernel
theorem dr_cX17_colours_163 : decode cX17_colours 163 = .ok (.istore 7, 2) := by decide +kernel
theorem dr_cX17_colours_165 : decode cX17_colours 165 = .ok (.iload 7, 2) := by decide +kernel
theorem dr_cX17_colours_167 : decode cX17_colours 167 = .ok (.sipush 2000, 3) := by decide +kernel
theorem dr_cX17_colours_170 : decode cX17_colours 170 = .ok (.if_icmp .ge 48, 3) := by decide +kernel
theorem dr_cX17_colours_218 : decode cX17_colours 218 = .ok (.lload 5, 2) := by decide +kernel
theorem dr_cX17_colours_220 : decode cX17_colours 220 = .ok (.ldc2_w 31, 3) := by decide +kernel
theorem dr_cX17_colours_223 : decode cX17_colours 223 = .ok (.lxor, 1) := by decide +kernel
theorem dr_cX17_colours_224 : decode cX17_colours 224 = .ok (.invokestatic 149, 3) := by decide +kernel
theorem dr_cX17_colours_227 : decode cX17_colours 227 = .ok (.istore 7, 2) := by decide +kernel
theorem dr_cX17_colours_229 : decode cX17_colours 229 = .ok (.iload 7, 2) := by decide +kernel
theorem dr_cX17_colours_231 : decode cX17_colours 231 = .ok (.iload_n 1, 1) := by decide +kernel
theorem dr_cX17_colours_232 : decode cX17_colours 232 = .ok (.if_icmp .ge 15, 3) := by decide +kernel
theorem dr_cX17_colours_247 : decode cX17_colours 247 = .ok (.iinc 3 1, 3) := by decide +kernel
theorem dr_cX17_colours_250 : decode cX17_colours 250 = .ok (.goto (-106), 3) := by decide +kernel
theorem dr_cX17_colours_235 : decode cX17_colours 235 = .ok (.aload_n 0, 1) := by decide +kernel
theorem dr_cX17_colours_236 : decode cX17_colours 236 = .ok (.getfield 212, 3) := by decide +kernel
theorem wr_7_91 : (Jvm.Cond.fieldLink "SpillForgeModel" (212 : Nat) "SpillForgeModel" "colour" "[I") ∈ gw := gw_7 91 rfl rfl
theorem dr_cX17_colours_239 : decode cX17_colours 239 = .ok (.iload 4, 2) := by decide +kernel
theorem dr_cX17_colours_241 : decode cX17_colours 241 = .ok (.iload 7, 2) := by decide +kernel
theorem dr_cX17_colours_243 : decode cX17_colours 243 = .ok (.iastore, 1) := by decide +kernel
theorem dr_cX17_colours_244 : decode cX17_colours 244 = .ok (.goto 6, 3) := by decide +kernel
theorem dr_cX17_colours_173 : decode cX17_colours 173 = .ok (.aload_n 0, 1) := by decide +kernel
theorem dr_cX17_colours_174 : decode cX17_colours 174 = .ok (.getfield 212, 3) := by decide +kernel
theorem dr_cX17_colours_177 : decode cX17_colours 177 = .ok (.iload 7, 2) := by decide +kernel
theorem dr_cX17_colours_179 : decode cX17_colours 179 = .ok (.iaload, 1) := by decide +kernel
theorem dr_cX17_colours_180 : decode cX17_colours 180 = .ok (.ifCond .lt 32, 3) := by decide +kernel
theorem dr_cX17_colours_212 : decode cX17_colours 212 = .ok (.iinc 7 1, 3) := by decide +kernel
theorem dr_cX17_colours_215 : decode cX17_colours 215 = .ok (.goto (-50), 3) := by decide +kernel
theorem dr_cX17_colours_183 : decode cX17_colours 183 = .ok (.aload_n 0, 1) := by decide +kernel
theorem dr_cX17_colours_184 : decode cX17_colours 184 = .ok (.getfield 135, 3) := by decide +kernel
theorem dr_cX17_colours_187 : decode cX17_colours 187 = .ok (.iload 4, 2) := by decide +kernel
theorem dr_cX17_colours_189 : decode cX17_colours 189 = .ok (.aaload, 1) := by decide +kernel
theorem dr_cX17_colours_190 : decode cX17_colours 190 = .ok (.iload 7, 2) := by decide +kernel
theorem dr_cX17_colours_192 : decode cX17_colours 192 = .ok (.invokestatic 145, 3) := by decide +kernel
theorem dr_cX17_colours_195 : decode cX17_colours 195 = .ok (.ifCond .eq 17, 3) := by decide +kernel
theorem dr_cX17_colours_198 : decode cX17_colours 198 = .ok (.lload 5, 2) := by decide +kernel
theorem dr_cX17_colours_200 : decode cX17_colours 200 = .ok (.lconst 1, 1) := by decide +kernel
theorem dr_cX17_colours_201 : decode cX17_colours 201 = .ok (.aload_n 0, 1) := by decide +kernel
theorem dr_cX17_colours_202 : decode cX17_colours 202 = .ok (.getfield 212, 3) := by decide +kernel
theorem dr_cX17_colours_205 : decode cX17_colours 205 = .ok (.iload 7, 2) := by decide +kernel
theorem dr_cX17_colours_207 : decode cX17_colours 207 = .ok (.iaload, 1) := by decide +kernel
theorem dr_cX17_colours_208 : decode cX17_colours 208 = .ok (.lshl, 1) := by decide +kernel
theorem dr_cX17_colours_209 : decode cX17_colours 209 = .ok (.lor, 1) := by decide +kernel
theorem dr_cX17_colours_210 : decode cX17_colours 210 = .ok (.lstore 5, 2) := by decide +kernel
theorem dr_cX17_colours_74 : decode cX17_colours 74 = .ok (.aload_n 0, 1) := by decide +kernel
theorem dr_cX17_colours_75 : decode cX17_colours 75 = .ok (.getfield 218, 3) := by decide +kernel
theorem dr_cX17_colours_78 : decode cX17_colours 78 = .ok (.iload_n 2, 1) := by decide +kernel
theorem dr_cX17_colours_79 : decode cX17_colours 79 = .ok (.iload_n 3, 1) := by decide +kernel
theorem dr_cX17_colours_80 : decode cX17_colours 80 = .ok (.iastore, 1) := by decide +kernel
theorem dr_cX17_colours_81 : decode cX17_colours 81 = .ok (.iinc 2 1, 3) := by decide +kernel
theorem dr_cX17_colours_84 : decode cX17_colours 84 = .ok (.aload_n 0, 1) := by decide +kernel
theorem dr_cX17_colours_85 : decode cX17_colours 85 = .ok (.getfield 206, 3) := by decide +kernel
theorem dr_cX17_colours_88 : decode cX17_colours 88 = .ok (.iload_n 3, 1) := by decide +kernel
theorem dr_cX17_colours_89 : decode cX17_colours 89 = .ok (.iconst 0, 1) := by decide +kernel
theorem dr_cX17_colours_90 : decode cX17_colours 90 = .ok (.bastore, 1) := by decide +kernel
theorem dr_cX17_colours_91 : decode cX17_colours 91 = .ok (.iconst 0, 1) := by decide +kernel
theorem dr_cX17_colours_92 : decode cX17_colours 92 = .ok (.istore 4, 2) := by decide +kernel
theorem dr_cX17_colours_94 : decode cX17_colours 94 = .ok (.iload 4, 2) := by decide +kernel
theorem dr_cX17_colours_96 : decode cX17_colours 96 = .ok (.sipush 2000, 3) := by decide +kernel
theorem dr_cX17_colours_99 : decode cX17_colours 99 = .ok (.if_icmp .ge 34, 3) := by decide +kernel
theorem dr_cX17_colours_133 : decode cX17_colours 133 = .ok (.aload_n 0, 1) := by decide +kernel
theorem dr_cX17_colours_134 : decode cX17_colours 134 = .ok (.iload_n 1, 1) := by decide +kernel
theorem dr_cX17_colours_135 : decode cX17_colours 135 = .ok (.invokevirtual 215, 3) := by decide +kernel
theorem dr_cX17_colours_138 : decode cX17_colours 138 = .ok (.istore_n 3, 1) := by decide +kernel
theorem dr_cX17_colours_139 : decode cX17_colours 139 = .ok (.goto (-69), 3) := by decide +kernel
theorem dr_cX17_colours_102 : decode cX17_colours 102 = .ok (.aload_n 0, 1) := by decide +kernel
theorem dr_cX17_colours_103 : decode cX17_colours 103 = .ok (.getfield 135, 3) := by decide +kernel
theorem dr_cX17_colours_106 : decode cX17_colours 106 = .ok (.iload_n 3, 1) := by decide +kernel
theorem dr_cX17_colours_107 : decode cX17_colours 107 = .ok (.aaload, 1) := by decide +kernel
theorem dr_cX17_colours_108 : decode cX17_colours 108 = .ok (.iload 4, 2) := by decide +kernel
theorem dr_cX17_colours_110 : decode cX17_colours 110 = .ok (.invokestatic 145, 3) := by decide +kernel
theorem dr_cX17_colours_113 : decode cX17_colours 113 = .ok (.ifCond .eq 14, 3) := by decide +kernel
theorem dr_cX17_colours_127 : decode cX17_colours 127 = .ok (.iinc 4 1, 3) := by decide +kernel
theorem dr_cX17_colours_130 : decode cX17_colours 130 = .ok (.goto (-36), 3) := by decide +kernel
theorem dr_cX17_colours_116 : decode cX17_colours 116 = .ok (.aload_n 0, 1) := by decide +kernel
theorem dr_cX17_colours_117 : decode cX17_colours 117 = .ok (.getfield 209, 3) := by decide +kernel
theorem dr_cX17_colours_120 : decode cX17_colours 120 = .ok (.iload 4, 2) := by decide +kernel
theorem dr_cX17_colours_122 : decode cX17_colours 122 = .ok (.dup2, 1) := by decide +kernel
theorem dr_cX17_colours_123 : decode cX17_colours 123 = .ok (.iaload, 1) := by decide +kernel
theorem dr_cX17_colours_124 : decode cX17_colours 124 = .ok (.iconst 1, 1) := by decide +kernel
theorem dr_cX17_colours_125 : decode cX17_colours 125 = .ok (.isub, 1) := by decide +kernel
theorem dr_cX17_colours_126 : decode cX17_colours 126 = .ok (.iastore, 1) := by decide +kernel
theorem dr_cX17_colours_9 : decode cX17_colours 9 = .ok (.aload_n 0, 1) := by decide +kernel
theorem dr_cX17_colours_10 : decode cX17_colours 10 = .ok (.getfield 206, 3) := by decide +kernel
theorem dr_cX17_colours_13 : decode cX17_colours 13 = .ok (.iload_n 2, 1) := by decide +kernel
theorem dr_cX17_colours_14 : decode cX17_colours 14 = .ok (.aload_n 0, 1) := by decide +kernel
theorem dr_cX17_colours_15 : decode cX17_colours 15 = .ok (.getfield 131, 3) := by decide +kernel
theorem dr_cX17_colours_18 : decode cX17_colours 18 = .ok (.iload_n 2, 1) := by decide +kernel
theorem dr_cX17_colours_19 : decode cX17_colours 19 = .ok (.baload, 1) := by decide +kernel
theorem dr_cX17_colours_20 : decode cX17_colours 20 = .ok (.bastore, 1) := by decide +kernel
theorem dr_cX17_colours_21 : decode cX17_colours 21 = .ok (.aload_n 0, 1) := by decide +kernel
theorem dr_cX17_colours_22 : decode cX17_colours 22 = .ok (.getfield 209, 3) := by decide +kernel
theorem dr_cX17_colours_25 : decode cX17_colours 25 = .ok (.iload_n 2, 1) := by decide +kernel
theorem dr_cX17_colours_26 : decode cX17_colours 26 = .ok (.aload_n 0, 1) := by decide +kernel
theorem dr_cX17_colours_27 : decode cX17_colours 27 = .ok (.getfield 131, 3) := by decide +kernel
theorem dr_cX17_colours_30 : decode cX17_colours 30 = .ok (.iload_n 2, 1) := by decide +kernel
theorem dr_cX17_colours_31 : decode cX17_colours 31 = .ok (.baload, 1) := by decide +kernel
theorem dr_cX17_colours_32 : decode cX17_colours 32 = .ok (.ifCond .eq 15, 3) := by decide +kernel
theorem dr_cX17_colours_47 : decode cX17_colours 47 = .ok (.iconst 0, 1) := by decide +kernel
theorem dr_cX17_colours_48 : decode cX17_colours 48 = .ok (.iastore, 1) := by decide +kernel
theorem dr_cX17_colours_49 : decode cX17_colours 49 = .ok (.aload_n 0, 1) := by decide +kernel
theorem dr_cX17_colours_50 : decode cX17_colours 50 = .ok (.getfield 212, 3) := by decide +kernel
theorem dr_cX17_colours_53 : decode cX17_colours 53 = .ok (.iload_n 2, 1) := by decide +kernel
theorem dr_cX17_colours_54 : decode cX17_colours 54 = .ok (.iconst (-1), 1) := by decide +kernel
theorem dr_cX17_colours_55 : decode cX17_colours 55 = .ok (.iastore, 1) := by decide +kernel
theorem dr_cX17_colours_56 : decode cX17_colours 56 = .ok (.iinc 2 1, 3) := by decide +kernel
theorem dr_cX17_colours_59 : decode cX17_colours 59 = .ok (.goto (-57), 3) := by decide +kernel
theorem dr_cX17_colours_35 : decode cX17_colours 35 = .ok (.aload_n 0, 1) := by decide +kernel
theorem dr_cX17_colours_36 : decode cX17_colours 36 = .ok (.getfield 135, 3) := by decide +kernel
theorem dr_cX17_colours_39 : decode cX17_colours 39 = .ok (.iload_n 2, 1) := by decide +kernel
theorem dr_cX17_colours_40 : decode cX17_colours 40 = .ok (.aaload, 1) := by decide +kernel
theorem dr_cX17_colours_41 : decode cX17_colours 41 = .ok (.invokestatic 202, 3) := by decide +kernel
theorem dr_cX17_colours_44 : decode cX17_colours 44 = .ok (.goto 4, 3) := by decide +kernel
abbrev ky_335990_SpillForgeModel_colours : gKey := (cX17_colours, 8, "SpillForgeModel", (some FieldType.int), [], "colours", fun _ _ => True)
def pt_335990_SpillForgeModel_colours (D : va_G) (I : FieldType → ClassId) (γ el : Nat → Nat → Nat) (P335986 : List Nat) (F335987 : Nat → va_E) (q335988 : Nat) (p335989 : Int32) : Option Value → va_W → Nat → Nat → Prop := fun r w dc ds => ∃ (F344679 : Nat → va_E) (o344678 : Int32), r = some (.int o344678) ∧ w = va_pl P335986 F344679 ∧ RS D I P335986 F344679 γ el ∧ rStr γ [] F335987 F344679 ∧ dc ≤ 0 ∧ ds ≤ 0 ∧ gB o344678 0 2000 ∧ (gIp (o344678.toInt = 0) (∀ m : Nat, rSd (cB (F344679 (γ 9 3))) m → 0 ≤ (cB (F344679 (γ 9 17)) m).toInt)) ∧ (F344679 q335988 = F335987 q335988) ∧ (F344679 (γ 9 3) = F335987 (γ 9 3)) ∧ tr_RModel_colours D I γ el P335986 F335987 q335988 p335989 o344678 F344679
set_option maxRecDepth 100000 in
set_option maxHeartbeats 4000000 in
theorem ct_335990_SpillForgeModel_colours (l : Launch) (hl0 : l.stackTraces = false) (D : va_G) (I : FieldType → ClassId) (γ el : Nat → Nat → Nat) (P335986 : List Nat) (F335987 : Nat → va_E) (q335988 : Nat) (p335989 : Int32) (hT : RS D I P335986 F335987 γ el) (htq335988 : rKd γ q335988 10) (bp335989 : gB p335989 1 32) : CtA (gV D I) l yX17_colours cX17_colours 8 (some FieldType.int) 2 43 0 0 [.ref q335988, .int p335989] (va_pl P335986 F335987) (pt_335990_SpillForgeModel_colours D I γ el P335986 F335987 q335988 p335989) gNA := by
  refine CtA_of hl0 (by decide) (Nat.le_of_ble_eq_true rfl) ?_
  have hm335991 : q335988 ∈ P335986 := RS_m hT htq335988 (by decide)
  refine rk10_e (show rk_10 γ (F335987 q335988) from RS_o hT htq335988) (fun q335993 q335994 p335995 p335996 p335997 p335998 p335999 p336000 p336001 p336002 p336003 p336004 p336005 p336006 p336007 p336008 p336009 he335992 hB336036 ht336010 ht336011 ht336012 ht336013 ht336014 ht336015 ht336016 ht336017 ht336018 ht336019 ht336020 ht336021 ht336022 ht336023 ht336024 ht336025 ht336026 ht336027 ht336028 ht336029 ht336030 ht336031 ht336032 ht336033 hB336037 => ?_)
  have hm336038 : (γ 9 3) ∈ P335986 := RS_m hT ht336015 (by decide)
  obtain ⟨f336040, he336039, bf336040⟩ := show rk_14 I (F335987 (γ 9 3)) from RS_o hT ht336015
  have hm336041 : (γ 9 18) ∈ P335986 := RS_m hT ht336024 (by decide)
  obtain ⟨f336043, he336042, bf336043⟩ := show rk_15 I (F335987 (γ 9 18)) from RS_o hT ht336024
  have hm336044 : (γ 9 15) ∈ P335986 := RS_m hT ht336021 (by decide)
  obtain ⟨f336046, he336045, bf336046⟩ := show rk_18 I (F335987 (γ 9 15)) from RS_o hT ht336021
  have hm336047 : (γ 9 17) ∈ P335986 := RS_m hT ht336023 (by decide)
  obtain ⟨f336049, he336048, bf336049⟩ := show rk_20 I (F335987 (γ 9 17)) from RS_o hT ht336023
  refine G_iconst 0 dr_cX17_colours_0 (by decide +kernel) ?_
  refine G_istore_n (L' := [(2, .int 0), (0, .ref q335988), (1, .int p335989)]) dr_cX17_colours_1 (Nat.le_of_ble_eq_true rfl) rfl ?_
  have hlp2_343387 : ∀ (n2_343387 : Nat) (F343382 : Nat → va_E) (g343381 : Int32), gB g343381 0 2000 → RS D I P335986 F343382 γ el → rStr γ [] F335987 F343382 → (∀ m : Nat, (m : Int) < g343381.toInt → rSd (cB (F343382 (γ 9 3))) m → rSd (cB (F343382 (γ 9 18))) m) → (F343382 q335988 = F335987 q335988) → (F343382 (γ 9 3) = F335987 (γ 9 3)) → (∀ (k : Nat) (e1 : Nat → va_E), tl_RModel_colours_2 D I γ el P335986 F335987 q335988 F343382 g343381 k e1 → tl_RModel_colours_2 D I γ el P335986 F335987 q335988 F335987 (0 : Int32) k e1) → ((2001 : Int) - g343381.toInt).toNat < n2_343387 → G (gV D I) l (gRm 2 43 0 0) (gMA (gV D I) (pt_335990_SpillForgeModel_colours D I γ el P335986 F335987 q335988 p335989) gNA 0 0) ky_335990_SpillForgeModel_colours 2 [(2, .int g343381), (0, .ref q335988), (1, .int p335989)] [] (va_pl P335986 F343382) 0 0 := by
    intro n2_343387
    induction n2_343387 with
    | zero => intro F343382 g343381 bg343381 hT343383 hs343384 x343385 x343386 x343387 kt2_343388 hm2_343387; exact absurd hm2_343387 (Nat.not_lt_zero _)
    | succ n2_343387 ih2_343387 =>
      intro F343382 g343381 bg343381 hT343383 hs343384 x343385 x343386 x343387 kt2_343388 hm2_343387
      have hs343389 : rStr γ [] F335987 F343382 := fun b h0 hb hw => (hs343384 b h0 hb hw).trans ((rStr_rf (γ := γ) (W := []) (F := F335987)) b h0 hb hw).symm
      have hs343390 : rStr γ [] F335987 F343382 := rStr_tr (rStr_rf (γ := γ) (W := []) (F := F335987)) hs343389
      have he343391 : F343382 q335988 = .inr (22, [.ref (γ 9 0), .ref (γ 9 1), .ref (γ 9 2), .ref (γ 9 3), .ref (γ 9 4), .ref (γ 9 5), .ref (γ 9 6), .ref (γ 9 7), .ref (γ 9 8), .int p335995, .int p335996, .int p335997, .int p335998, .int p335999, .int p336000, .ref (γ 9 15), .ref (γ 9 16), .ref (γ 9 17), .ref (γ 9 18), .ref (γ 9 19), .ref (γ 9 20), .ref (γ 9 21), .ref (γ 9 22), .int p336001, .int p336002, .int p336003, .int p336004, .int p336005, .ref q335993, .ref (γ 9 29), .int p336006, .ref (γ 9 31), .int p336007, .int p336008, .int p336009, .ref q335994]) := x343386.trans he335992
      have hm343392 : q335988 ∈ P335986 := RS_m hT343383 htq335988 (by decide)
      have he343393 : F343382 (γ 9 3) = .inl (I .boolean, 2000, .inl f336040) := x343387.trans he336039
      have hm343394 : (γ 9 3) ∈ P335986 := RS_m hT343383 ht336015 (by decide)
      have hm343395 : (γ 9 18) ∈ P335986 := RS_m hT343383 ht336024 (by decide)
      obtain ⟨f343397, he343396, bf343397⟩ := show rk_15 I (F343382 (γ 9 18)) from RS_o hT343383 ht336024
      have hm343398 : (γ 9 15) ∈ P335986 := RS_m hT343383 ht336021 (by decide)
      obtain ⟨f343400, he343399, bf343400⟩ := show rk_18 I (F343382 (γ 9 15)) from RS_o hT343383 ht336021
      have hm343401 : (γ 9 17) ∈ P335986 := RS_m hT343383 ht336023 (by decide)
      obtain ⟨f343403, he343402, bf343403⟩ := show rk_20 I (F343382 (γ 9 17)) from RS_o hT343383 ht336023
      have cq343404 := x343385
      rw [cB_of he343393, cB_of he343396] at cq343404
      refine G_iload_n 0 dr_cX17_colours_2 rfl ?_
      refine G_sipush 2000 dr_cX17_colours_3 (by decide +kernel) ?_
      refine G_icmp_ge 62 dr_cX17_colours_6 (by decide +kernel) (fun hc343405 => ?_) (fun hc343405 => ?_)
      · have r343406 : 2000 ≤ g343381.toInt := gj_leL hc343405 (show Int32.toInt 2000 = 2000 by decide)
        have bg343381' : gB g343381 2000 2000 := ⟨by omega, by omega⟩
        have hx343407 : tl_RModel_colours_2 D I γ el P335986 F335987 q335988 F335987 (0 : Int32) 62 F343382 := kt2_343388 62 F343382 (fun R c1 c2 c3 => c1 F343382 g343381 bg343381 hT343383 hs343384 x343385 x343386 x343387 r343406)
        refine G_iconst 0 dr_cX17_colours_62 (by decide +kernel) ?_
        refine G_istore_n (L' := [(2, .int 0), (0, .ref q335988), (1, .int p335989)]) dr_cX17_colours_63 (Nat.le_of_ble_eq_true rfl) rfl ?_
        refine G_aload_n 1 dr_cX17_colours_64 rfl ?_
        refine G_iload_n 2 dr_cX17_colours_65 rfl ?_
        refine Gw_callV (As := [.int p335989]) (gV_ok D I) (ct_336786_SpillForgeModel_next l hl0 D I γ el P335986 F343382 q335988 p335989 hT343383 htq335988) dr_cX17_colours_66 ⟨wr_11_51, wr_1_14, wr_11_54, by decide, rfl, (Nat.le_of_ble_eq_true rfl), (Nat.le_of_ble_eq_true rfl)⟩ wr_11_53 wr_p_107 hm343392 he343391 rfl (show 0 + 0 ≤ 0 by first | omega | decide) (show 0 + 0 ≤ 0 by first | omega | decide) (Nat.le_of_ble_eq_true rfl) (fun r343411 w343412 dc343408 ds343409 hp343410 => ?_) (fun _ _ _ _ _ z => z.elim)
        obtain ⟨o343413, rfl, rfl, hdc, hds, bo343413, x343414, x343415, ht343416⟩ := hp343410
        change G _ _ _ _ _ _ _ (.int o343413 :: _) _ _ _
        refine G_widen (cs' := 0) (sl' := 0) (by omega) (by omega) ?_
        refine G_istore_n (L' := [(3, .int o343413), (2, .int 0), (0, .ref q335988), (1, .int p335989)]) dr_cX17_colours_69 (Nat.le_of_ble_eq_true rfl) rfl ?_
        have hlp70_343988 : ∀ (n70_343988 : Nat) (F343980 : Nat → va_E) (g343978 : Int32) (g343979 : Int32), gB g343978 (-1) 1999 → gB g343979 0 2000 → RS D I P335986 F343980 γ el → rStr γ [] F335987 F343980 → (∀ m : Nat, rSd (cB (F343980 (γ 9 3))) m → rSd (cB (F343980 (γ 9 18))) m ∨ ∃ i : Nat, (i : Int) < g343979.toInt ∧ (cB (F343980 (γ 9 15)) i).toInt = m) → (rcn (cB (F343980 (γ 9 18))) 2000 + (g343979.toInt : Int).toNat ≤ 2000) → (gIp (0 ≤ g343978.toInt) (rSd (cB (F343980 (γ 9 18))) (g343978.toInt : Int).toNat)) → (gIp (g343978.toInt < 0) (∀ m : Nat, ¬ rSd (cB (F343980 (γ 9 18))) m)) → (F343980 q335988 = F335987 q335988) → (F343980 (γ 9 3) = F335987 (γ 9 3)) → (∀ (k : Nat) (e1 : Int32) (e2 : Nat → va_E), tl_RModel_colours_70 D I γ el P335986 F335987 q335988 p335989 F343980 g343978 g343979 k e1 e2 → tl_RModel_colours_70 D I γ el P335986 F335987 q335988 p335989 F343382 o343413 (0 : Int32) k e1 e2) → (rcn (cB (F343980 (γ 9 18))) 2000) < n70_343988 → G (gV D I) l (gRm 2 43 0 0) (gMA (gV D I) (pt_335990_SpillForgeModel_colours D I γ el P335986 F335987 q335988 p335989) gNA 0 0) ky_335990_SpillForgeModel_colours 70 [(3, .int g343978), (2, .int g343979), (0, .ref q335988), (1, .int p335989)] [] (va_pl P335986 F343980) 0 0 := by
          intro n70_343988
          induction n70_343988 with
          | zero => intro F343980 g343978 g343979 bg343978 bg343979 hT343981 hs343982 x343983 x343984 x343985 x343986 x343987 x343988 kt70_343989 hm70_343988; exact absurd hm70_343988 (Nat.not_lt_zero _)
          | succ n70_343988 ih70_343988 =>
            intro F343980 g343978 g343979 bg343978 bg343979 hT343981 hs343982 x343983 x343984 x343985 x343986 x343987 x343988 kt70_343989 hm70_343988
            have hs343990 : rStr γ [] F343382 F343980 := fun b h0 hb hw => (hs343982 b h0 hb hw).trans (hs343384 b h0 hb hw).symm
            have hs343991 : rStr γ [] F335987 F343980 := rStr_tr hs343384 hs343990
            have he343992 : F343980 q335988 = .inr (22, [.ref (γ 9 0), .ref (γ 9 1), .ref (γ 9 2), .ref (γ 9 3), .ref (γ 9 4), .ref (γ 9 5), .ref (γ 9 6), .ref (γ 9 7), .ref (γ 9 8), .int p335995, .int p335996, .int p335997, .int p335998, .int p335999, .int p336000, .ref (γ 9 15), .ref (γ 9 16), .ref (γ 9 17), .ref (γ 9 18), .ref (γ 9 19), .ref (γ 9 20), .ref (γ 9 21), .ref (γ 9 22), .int p336001, .int p336002, .int p336003, .int p336004, .int p336005, .ref q335993, .ref (γ 9 29), .int p336006, .ref (γ 9 31), .int p336007, .int p336008, .int p336009, .ref q335994]) := x343987.trans he335992
            have hm343993 : q335988 ∈ P335986 := RS_m hT343981 htq335988 (by decide)
            have he343994 : F343980 (γ 9 3) = .inl (I .boolean, 2000, .inl f336040) := x343988.trans he336039
            have hm343995 : (γ 9 3) ∈ P335986 := RS_m hT343981 ht336015 (by decide)
            have hm343996 : (γ 9 18) ∈ P335986 := RS_m hT343981 ht336024 (by decide)
            obtain ⟨f343998, he343997, bf343998⟩ := show rk_15 I (F343980 (γ 9 18)) from RS_o hT343981 ht336024
            have hm343999 : (γ 9 15) ∈ P335986 := RS_m hT343981 ht336021 (by decide)
            obtain ⟨f344001, he344000, bf344001⟩ := show rk_18 I (F343980 (γ 9 15)) from RS_o hT343981 ht336021
            have hm344002 : (γ 9 17) ∈ P335986 := RS_m hT343981 ht336023 (by decide)
            obtain ⟨f344004, he344003, bf344004⟩ := show rk_20 I (F343980 (γ 9 17)) from RS_o hT343981 ht336023
            have cq344005 := x343983
            rw [cB_of he343994, cB_of he343997, cB_of he344000] at cq344005
            have cq344006 := x343984
            rw [cB_of he343997] at cq344006
            have cq344007 := x343985
            rw [cB_of he343997] at cq344007
            have cq344008 := x343986
            rw [cB_of he343997] at cq344008
            refine G_iload_n 0 dr_cX17_colours_70 rfl ?_
            refine G_if_lt 142 dr_cX17_colours_71 (by decide +kernel) (fun hc344009 => ?_) (fun hc344009 => ?_)
            · have r344010 : g343978.toInt < 0 := gj_lt hc344009 (show Int32.toInt 0 = 0 by decide)
              have bg343978' : gB g343978 (-1) (-1) := ⟨by omega, by omega⟩
              have hx344011 : tl_RModel_colours_70 D I γ el P335986 F335987 q335988 p335989 F343382 o343413 (0 : Int32) 142 g343979 F343980 := kt70_343989 142 g343979 F343980 (fun R c1 c2 => c1 F343980 g343978 g343979 bg343978 bg343979 hT343981 hs343982 x343983 x343984 x343985 x343986 x343987 x343988 r344010)
              refine G_iconst 0 dr_cX17_colours_142 (by decide +kernel) ?_
              refine G_istore_n (L' := [(3, .int 0), (2, .int g343979), (0, .ref q335988), (1, .int p335989)]) dr_cX17_colours_143 (Nat.le_of_ble_eq_true rfl) rfl ?_
              have hlp144_344185 : ∀ (n144_344185 : Nat) (F344179 : Nat → va_E) (g344177 : Int32) (g344178 : Int32), gB g344177 0 2000 → gB g344178 0 2000 → RS D I P335986 F344179 γ el → rStr γ [] F335987 F344179 → (gIp (g344177.toInt = 0) (∀ m : Nat, rSd (cB (F344179 (γ 9 3))) m → (∃ i : Nat, (i : Int) < g344178.toInt ∧ (cB (F344179 (γ 9 15)) i).toInt = m) ∨ 0 ≤ (cB (F344179 (γ 9 17)) m).toInt)) → (g344177.toInt + g344178.toInt ≤ 2000) → (F344179 q335988 = F335987 q335988) → (F344179 (γ 9 3) = F335987 (γ 9 3)) → (∀ (k : Nat) (e1 : Int32) (e2 : Nat → va_E), tl_RModel_colours_144 D I γ el P335986 F335987 q335988 p335989 F344179 g344177 g344178 k e1 e2 → tl_RModel_colours_144 D I γ el P335986 F335987 q335988 p335989 F343980 (0 : Int32) g343979 k e1 e2) → ((g344178.toInt : Int) - (-1)).toNat < n144_344185 → G (gV D I) l (gRm 2 43 0 0) (gMA (gV D I) (pt_335990_SpillForgeModel_colours D I γ el P335986 F335987 q335988 p335989) gNA 0 0) ky_335990_SpillForgeModel_colours 144 [(3, .int g344177), (2, .int g344178), (0, .ref q335988), (1, .int p335989)] [] (va_pl P335986 F344179) 0 0 := by
                intro n144_344185
                induction n144_344185 with
                | zero => intro F344179 g344177 g344178 bg344177 bg344178 hT344180 hs344181 x344182 x344183 x344184 x344185 kt144_344186 hm144_344185; exact absurd hm144_344185 (Nat.not_lt_zero _)
                | succ n144_344185 ih144_344185 =>
                  intro F344179 g344177 g344178 bg344177 bg344178 hT344180 hs344181 x344182 x344183 x344184 x344185 kt144_344186 hm144_344185
                  have hs344187 : rStr γ [] F343980 F344179 := fun b h0 hb hw => (hs344181 b h0 hb hw).trans (hs343982 b h0 hb hw).symm
                  have hs344188 : rStr γ [] F335987 F344179 := rStr_tr hs343982 hs344187
                  have he344189 : F344179 q335988 = .inr (22, [.ref (γ 9 0), .ref (γ 9 1), .ref (γ 9 2), .ref (γ 9 3), .ref (γ 9 4), .ref (γ 9 5), .ref (γ 9 6), .ref (γ 9 7), .ref (γ 9 8), .int p335995, .int p335996, .int p335997, .int p335998, .int p335999, .int p336000, .ref (γ 9 15), .ref (γ 9 16), .ref (γ 9 17), .ref (γ 9 18), .ref (γ 9 19), .ref (γ 9 20), .ref (γ 9 21), .ref (γ 9 22), .int p336001, .int p336002, .int p336003, .int p336004, .int p336005, .ref q335993, .ref (γ 9 29), .int p336006, .ref (γ 9 31), .int p336007, .int p336008, .int p336009, .ref q335994]) := x344184.trans he335992
                  have hm344190 : q335988 ∈ P335986 := RS_m hT344180 htq335988 (by decide)
                  have he344191 : F344179 (γ 9 3) = .inl (I .boolean, 2000, .inl f336040) := x344185.trans he336039
                  have hm344192 : (γ 9 3) ∈ P335986 := RS_m hT344180 ht336015 (by decide)
                  have hm344193 : (γ 9 18) ∈ P335986 := RS_m hT344180 ht336024 (by decide)
                  obtain ⟨f344195, he344194, bf344195⟩ := show rk_15 I (F344179 (γ 9 18)) from RS_o hT344180 ht336024
                  have hm344196 : (γ 9 15) ∈ P335986 := RS_m hT344180 ht336021 (by decide)
                  obtain ⟨f344198, he344197, bf344198⟩ := show rk_18 I (F344179 (γ 9 15)) from RS_o hT344180 ht336021
                  have hm344199 : (γ 9 17) ∈ P335986 := RS_m hT344180 ht336023 (by decide)
                  obtain ⟨f344201, he344200, bf344201⟩ := show rk_20 I (F344179 (γ 9 17)) from RS_o hT344180 ht336023
                  have cq344202 := x344182
                  rw [cB_of he344191, cB_of he344197, cB_of he344200] at cq344202
                  refine G_iload_n 1 dr_cX17_colours_144 rfl ?_
                  refine G_if_le 253 dr_cX17_colours_145 (by decide +kernel) (fun hc344203 => ?_) (fun hc344203 => ?_)
                  · have r344204 : g344178.toInt ≤ 0 := gj_le hc344203 (show Int32.toInt 0 = 0 by decide)
                    have bg344178' : gB g344178 0 0 := ⟨by omega, by omega⟩
                    have hx344205 : tl_RModel_colours_144 D I γ el P335986 F335987 q335988 p335989 F343980 (0 : Int32) g343979 253 g344177 F344179 := kt144_344186 253 g344177 F344179 (fun R c1 c2 c3 => c1 F344179 g344177 g344178 bg344177 bg344178 hT344180 hs344181 x344182 x344183 x344184 x344185 r344204)
                    refine G_iload_n 0 dr_cX17_colours_253 rfl ?_
                    exact G_iretA dr_cX17_colours_254 rfl (Nat.le_of_ble_eq_true rfl) (Nat.le_of_ble_eq_true rfl) ⟨F344179, g344177, rfl, rfl, hT344180, hs344181, (Nat.le_of_ble_eq_true rfl), (Nat.le_of_ble_eq_true rfl), bg344177, (fun h0 m s => by rw [cB_of he344200]; rw [cB_of he344191] at s; exact (cq344202 h0 m s).resolve_left (fun ⟨i, hi, _⟩ => absurd hi (by omega))), x344184, x344185, (fun R c1 => c1 F343382 o343413 g343979 F343980 g344177 F344179 hx343407 bo343413 x343414 x343415 ht343416 hx344011 hx344205)⟩
                  · have r344206 : 0 < g344178.toInt := gj_nle hc344203 (show Int32.toInt 0 = 0 by decide)
                    have bg344178' : gB g344178 1 2000 := ⟨by omega, by omega⟩
                    obtain ⟨z344207, hz344207⟩ : ∃ z : Int32, z = g344178 + Int32.ofInt (-1) := ⟨_, rfl⟩
                    have ez344207 : z344207.toInt = g344178.toInt + (-1) := gI_inc hz344207 (by decide) bg344178' (by decide) (by decide)
                    have bz344207 : gB z344207 0 1999 := ⟨by omega, by omega⟩
                    refine G_iinc (L' := [(2, .int z344207), (3, .int g344177), (0, .ref q335988), (1, .int p335989)]) z344207 1 dr_cX17_colours_148 rfl hz344207.symm (Nat.le_of_ble_eq_true rfl) rfl ?_
                    refine G_aload_n 2 dr_cX17_colours_151 rfl ?_
                    have fq344208 : fR (F344179 q335988) 15 = (γ 9 15) := by rw [he344189]; rfl
                    refine Gp_get 15 hm344190 he344189 dr_cX17_colours_152 (gk_X17 D I) (Nat.le_of_ble_eq_true rfl) wr_7_89 rfl ?_
                    refine G_iload_n 0 dr_cX17_colours_155 rfl ?_
                    refine Gp_iald 0 hm344196 he344197 dr_cX17_colours_156 rfl (gB_in bz344207 (by decide) (by decide)) (G_nam fun z344209 hz344209 => ?_)
                    have bz344209 : gB z344209 0 1999 := by rw [hz344209]; exact bf344198 _
                    refine G_istore (L' := [(4, .int z344209), (2, .int z344207), (3, .int g344177), (0, .ref q335988), (1, .int p335989)]) dr_cX17_colours_157 (Nat.le_of_ble_eq_true rfl) rfl ?_
                    refine G_lconst 0 dr_cX17_colours_159 rfl ?_
                    refine G_lstore (L' := [(5, .long 0), (4, .int z344209), (2, .int z344207), (3, .int g344177), (0, .ref q335988), (1, .int p335989)]) dr_cX17_colours_160 (Nat.le_of_ble_eq_true rfl) rfl ?_
                    refine G_iconst 0 dr_cX17_colours_162 (by decide +kernel) ?_
                    refine G_istore (L' := [(7, .int 0), (5, .long 0), (4, .int z344209), (2, .int z344207), (3, .int g344177), (0, .ref q335988), (1, .int p335989)]) dr_cX17_colours_163 (Nat.le_of_ble_eq_true rfl) rfl ?_
                    have hlp165_344281 : ∀ (n165_344281 : Nat) (g344279 : Int32) (gl344280 : Int64), gB g344279 0 2000 → lb_Q gl344280 (32) → (∀ (k : Nat) (e1 : Int64), tl_RModel_colours_165 D I γ el F344179 q335988 z344209 g344279 gl344280 k e1 → tl_RModel_colours_165 D I γ el F344179 q335988 z344209 (0 : Int32) (0 : Int64) k e1) → ((2001 : Int) - g344279.toInt).toNat < n165_344281 → G (gV D I) l (gRm 2 43 0 0) (gMA (gV D I) (pt_335990_SpillForgeModel_colours D I γ el P335986 F335987 q335988 p335989) gNA 0 0) ky_335990_SpillForgeModel_colours 165 [(7, .int g344279), (5, .long gl344280), (4, .int z344209), (2, .int z344207), (3, .int g344177), (0, .ref q335988), (1, .int p335989)] [] (va_pl P335986 F344179) 0 0 := by
                      intro n165_344281
                      induction n165_344281 with
                      | zero => intro g344279 gl344280 bg344279 x344281 kt165_344282 hm165_344281; exact absurd hm165_344281 (Nat.not_lt_zero _)
                      | succ n165_344281 ih165_344281 =>
                        intro g344279 gl344280 bg344279 x344281 kt165_344282 hm165_344281
                        refine G_iload 0 dr_cX17_colours_165 rfl ?_
                        refine G_sipush 2000 dr_cX17_colours_167 (by decide +kernel) ?_
                        refine G_icmp_ge 218 dr_cX17_colours_170 (by decide +kernel) (fun hc344283 => ?_) (fun hc344283 => ?_)
                        · have r344284 : 2000 ≤ g344279.toInt := gj_leL hc344283 (show Int32.toInt 2000 = 2000 by decide)
                          have bg344279' : gB g344279 2000 2000 := ⟨by omega, by omega⟩
                          have hx344285 : tl_RModel_colours_165 D I γ el F344179 q335988 z344209 (0 : Int32) (0 : Int64) 218 gl344280 := kt165_344282 218 gl344280 (fun R c1 c2 c3 c4 => c1 g344279 gl344280 bg344279 x344281 r344284)
                          refine G_lload 1 dr_cX17_colours_218 rfl ?_
                          refine G_ldc2 (-1) dr_cX17_colours_220 wr_10_188 ?_
                          refine G_lxor dr_cX17_colours_223 (G_namL fun u344286 hu344286 => ?_)
                          refine Gw_callS (As := [.long u344286]) (gV_ok D I) (nzc_Long_numberOfTrailingZeros l hl0 D I P335986 F344179 u344286) dr_cX17_colours_224 ⟨wr_11_1, wr_1_31, wr_11_3, by decide, rfl, (Nat.le_of_ble_eq_true rfl), (Nat.le_of_ble_eq_true rfl)⟩ wr_11_2 (show 0 + 0 ≤ 0 by first | omega | decide) (show 0 + 0 ≤ 0 by first | omega | decide) (Nat.le_of_ble_eq_true rfl) (fun r344290 w344291 dc344287 ds344288 hp344289 => ?_) (fun _ _ _ _ _ z => z.elim)
                          obtain ⟨o344293, rfl, rfl, hdc, hds, hO344292⟩ := hp344289
                          have hO344292 := hO344292 (nz_x hu344286 x344281)
                          have bo344293 : gB o344293 0 63 := ⟨hO344292.1, hO344292.2.1⟩
                          change G _ _ _ _ _ _ _ (.int o344293 :: _) _ _ _
                          refine G_widen (cs' := 0) (sl' := 0) (by omega) (by omega) ?_
                          refine G_istore (L' := [(7, .int o344293), (5, .long gl344280), (4, .int z344209), (2, .int z344207), (3, .int g344177), (0, .ref q335988), (1, .int p335989)]) dr_cX17_colours_227 (Nat.le_of_ble_eq_true rfl) rfl ?_
                          refine G_iload 0 dr_cX17_colours_229 rfl ?_
                          refine G_iload_n 6 dr_cX17_colours_231 rfl ?_
                          refine G_icmp_ge 247 dr_cX17_colours_232 (by decide +kernel) (fun hc344294 => ?_) (fun hc344294 => ?_)
                          · have r344295 : p335989.toInt ≤ o344293.toInt := gC_le hc344294
                            have bo344293' : gB o344293 1 63 := ⟨by omega, by omega⟩
                            have bg344177' : gB g344177 0 1999 := ⟨by omega, by omega⟩
                            obtain ⟨z344296, hz344296⟩ : ∃ z : Int32, z = g344177 + Int32.ofInt 1 := ⟨_, rfl⟩
                            have ez344296 : z344296.toInt = g344177.toInt + 1 := gI_inc hz344296 (by decide) bg344177' (by decide) (by decide)
                            have bz344296 : gB z344296 1 2000 := ⟨by omega, by omega⟩
                            refine G_iinc (L' := [(3, .int z344296), (7, .int o344293), (5, .long gl344280), (4, .int z344209), (2, .int z344207), (0, .ref q335988), (1, .int p335989)]) z344296 4 dr_cX17_colours_247 rfl hz344296.symm (Nat.le_of_ble_eq_true rfl) rfl ?_
                            refine G_goto 144 dr_cX17_colours_250 (by decide +kernel) ?_
                            refine G_lv (L' := [(3, .int z344296), (2, .int z344207), (0, .ref q335988), (1, .int p335989)]) [0, 4, 5, 6] rfl ?_
                            exact ih144_344185 F344179 z344296 z344207 (gB_w bz344296 (by decide) (by decide)) (gB_w bz344207 (by decide) (by decide)) hT344180 hs344181 (fun h0 => absurd h0 (by omega)) (by omega) x344184 x344185 (fun k e1 e2 ht => kt144_344186 k e1 e2 (fun R c1 c2 c3 => c2 F344179 g344177 g344178 z344207 f344198 z344209 gl344280 u344286 o344293 z344296 k e1 e2 bg344177 bg344178 hT344180 hs344181 x344182 x344183 x344184 x344185 r344206 ez344207 fq344208 he344197 hz344209 bz344209 hx344285 hu344286 hO344292 r344295 ez344296 (ht R c1 c2 c3))) (mz_dn ez344207 (Int.le_trans (by decide) bg344178'.1) hm144_344185)
                          · have r344297 : o344293.toInt < p335989.toInt := gC_nle hc344294
                            have bo344293' : gB o344293 0 31 := ⟨by omega, by omega⟩
                            refine G_aload_n 5 dr_cX17_colours_235 rfl ?_
                            have fq344298 : fR (F344179 q335988) 17 = (γ 9 17) := by rw [he344189]; rfl
                            refine Gp_get 17 hm344190 he344189 dr_cX17_colours_236 (gk_X17 D I) (Nat.le_of_ble_eq_true rfl) wr_7_91 rfl ?_
                            refine G_iload 2 dr_cX17_colours_239 rfl ?_
                            refine G_iload 0 dr_cX17_colours_241 rfl ?_
                            refine Gp_iast 0 hm344199 he344200 dr_cX17_colours_243 rfl (gB_in bz344209 (by decide) (by decide)) (fun F344299 e344300 n344301 => ?_)
                            obtain ⟨f344302, hf344302⟩ : ∃ z, z = upd f344201 z344209.toNatClampNeg o344293 := ⟨_, rfl⟩
                            rw [← hf344302] at e344300
                            have he344303 : F344299 q335988 = .inr (22, [.ref (γ 9 0), .ref (γ 9 1), .ref (γ 9 2), .ref (γ 9 3), .ref (γ 9 4), .ref (γ 9 5), .ref (γ 9 6), .ref (γ 9 7), .ref (γ 9 8), .int p335995, .int p335996, .int p335997, .int p335998, .int p335999, .int p336000, .ref (γ 9 15), .ref (γ 9 16), .ref (γ 9 17), .ref (γ 9 18), .ref (γ 9 19), .ref (γ 9 20), .ref (γ 9 21), .ref (γ 9 22), .int p336001, .int p336002, .int p336003, .int p336004, .int p336005, .ref q335993, .ref (γ 9 29), .int p336006, .ref (γ 9 31), .int p336007, .int p336008, .int p336009, .ref q335994]) := (n344301 q335988 (rn_oa he344189 he344200)).trans he344189
                            have he344304 : F344299 (γ 9 3) = .inl (I .boolean, 2000, .inl f336040) := (n344301 (γ 9 3) (rn_ty ht336015 ht336023 (by decide))).trans he344191
                            have he344305 : F344299 (γ 9 18) = .inl (I .boolean, 2000, .inl f344195) := (n344301 (γ 9 18) (rn_ty ht336024 ht336023 (by decide))).trans he344194
                            have he344306 : F344299 (γ 9 15) = .inl (I .int, 2000, .inl f344198) := (n344301 (γ 9 15) (rn_ty ht336021 ht336023 (by decide))).trans he344197
                            have he344307 : F344299 (γ 9 17) = .inl (I .int, 2000, .inl f344302) := e344300
                            have hs344308 : rStr γ [] F335987 F344299 := rStr_put hs344181 n344301 ht336023 (by decide)
                            have kp344309 : F344299 q335988 = F335987 q335988 := (n344301 q335988 (rn_ty htq335988 ht336023 (by decide))).trans x344184
                            have kp344310 : F344299 (γ 9 3) = F335987 (γ 9 3) := (n344301 (γ 9 3) (rn_ty ht336015 ht336023 (by decide))).trans x344185
                            have bf344302 : gF f344302 (-1) 31 := gF_upd hf344302 bf344201 (gB_w bo344293' (by decide) (by decide))
                            refine G_goto 250 dr_cX17_colours_244 (by decide +kernel) ?_
                            refine G_goto 144 dr_cX17_colours_250 (by decide +kernel) ?_
                            have hT344311 : RS D I P335986 F344299 γ el := RS_set hT344180 n344301 ht336023 (by decide) ⟨f344302, he344307, bf344302⟩
                            refine G_lv (L' := [(3, .int g344177), (2, .int z344207), (0, .ref q335988), (1, .int p335989)]) [4, 3, 5, 6] rfl ?_
                            exact ih144_344185 F344299 g344177 z344207 bg344177 (gB_w bz344207 (by decide) (by decide)) hT344311 hs344308 (by rw [cB_of he344304, cB_of he344306, cB_of he344307]; exact fun h0 => co_u hz344209 hf344302 (by omega) (by omega) (by omega) (cq344202 h0)) (by omega) kp344309 kp344310 (fun k e1 e2 ht => kt144_344186 k e1 e2 (fun R c1 c2 c3 => c3 F344179 g344177 g344178 z344207 f344198 z344209 gl344280 u344286 o344293 f344201 f344302 F344299 k e1 e2 bg344177 bg344178 hT344180 hs344181 x344182 x344183 x344184 x344185 r344206 ez344207 fq344208 he344197 hz344209 bz344209 hx344285 hu344286 hO344292 r344297 fq344298 he344200 hf344302 n344301 he344307 (ht R c1 c2 c3))) (mz_dn ez344207 (Int.le_trans (by decide) bg344178'.1) hm144_344185)
                        · have r344312 : g344279.toInt < 2000 := gj_nleL hc344283 (show Int32.toInt 2000 = 2000 by decide)
                          have bg344279' : gB g344279 0 1999 := ⟨by omega, by omega⟩
                          refine G_aload_n 5 dr_cX17_colours_173 rfl ?_
                          have fq344313 : fR (F344179 q335988) 17 = (γ 9 17) := by rw [he344189]; rfl
                          refine Gp_get 17 hm344190 he344189 dr_cX17_colours_174 (gk_X17 D I) (Nat.le_of_ble_eq_true rfl) wr_7_91 rfl ?_
                          refine G_iload 0 dr_cX17_colours_177 rfl ?_
                          refine Gp_iald 0 hm344199 he344200 dr_cX17_colours_179 rfl (gB_in bg344279' (by decide) (by decide)) (G_nam fun z344314 hz344314 => ?_)
                          have bz344314 : gB z344314 (-1) 31 := by rw [hz344314]; exact bf344201 _
                          refine G_if_lt 212 dr_cX17_colours_180 (by decide +kernel) (fun hc344315 => ?_) (fun hc344315 => ?_)
                          · have r344316 : z344314.toInt < 0 := gj_lt hc344315 (show Int32.toInt 0 = 0 by decide)
                            have bz344314' : gB z344314 (-1) (-1) := ⟨by omega, by omega⟩
                            obtain ⟨z344317, hz344317⟩ : ∃ z : Int32, z = g344279 + Int32.ofInt 1 := ⟨_, rfl⟩
                            have ez344317 : z344317.toInt = g344279.toInt + 1 := gI_inc hz344317 (by decide) bg344279' (by decide) (by decide)
                            have bz344317 : gB z344317 1 2000 := ⟨by omega, by omega⟩
                            refine G_iinc (L' := [(7, .int z344317), (5, .long gl344280), (4, .int z344209), (2, .int z344207), (3, .int g344177), (0, .ref q335988), (1, .int p335989)]) z344317 0 dr_cX17_colours_212 rfl hz344317.symm (Nat.le_of_ble_eq_true rfl) rfl ?_
                            refine G_goto 165 dr_cX17_colours_215 (by decide +kernel) ?_
                            exact ih165_344281 z344317 gl344280 (gB_w bz344317 (by decide) (by decide)) x344281 (fun k e1 ht => kt165_344282 k e1 (fun R c1 c2 c3 c4 => c2 g344279 gl344280 f344201 z344314 z344317 k e1 bg344279 x344281 r344312 fq344313 he344200 hz344314 bz344314 r344316 ez344317 (ht R c1 c2 c3 c4))) (mz_up ez344317 (Int.le_trans bg344279'.2 (by decide)) hm165_344281)
                          · have r344318 : 0 ≤ z344314.toInt := gj_nlt hc344315 (show Int32.toInt 0 = 0 by decide)
                            have bz344314' : gB z344314 0 31 := ⟨by omega, by omega⟩
                            refine G_aload_n 5 dr_cX17_colours_183 rfl ?_
                            have fq344319 : fR (F344179 q335988) 1 = (γ 9 1) := by rw [he344189]; rfl
                            refine Gp_get 1 hm344190 he344189 dr_cX17_colours_184 (gk_X17 D I) (Nat.le_of_ble_eq_true rfl) wr_7_75 rfl ?_
                            refine G_iload 2 dr_cX17_colours_187 rfl ?_
                            have hm344320 : (γ 9 1) ∈ P335986 := RS_m hT344180 ht336013 (by decide)
                            obtain ⟨f344322, he344321, hg344323⟩ := show rk_13 I γ (F344179 (γ 9 1)) from RS_o hT344180 ht336013
                            obtain ⟨q344324, hx344326⟩ : ∃ x, x = γ 11 z344209.toInt.toNat := ⟨_, rfl⟩
                            have ht344325 : rKd γ q344324 36 := by rw [hx344326]; exact (hg344323 _ (show z344209.toInt.toNat < 2000 by omega)).2.1
                            refine Gp_aald 5 hm344320 he344321 dr_cX17_colours_189 rfl rfl (gB_in bz344209 (by decide) (by decide)) ?_
                            rw [show f344322 z344209.toNatClampNeg = some q344324 from (hg344323 _ (show z344209.toInt.toNat < 2000 by omega)).1.trans (by rw [hx344326])]
                            change G _ _ _ _ _ _ _ (.ref q344324 :: _) _ _ _
                            refine G_iload 0 dr_cX17_colours_190 rfl ?_
                            have hm344327 : q344324 ∈ P335986 := RS_m hT344180 ht344325 (by decide)
                            obtain ⟨f344329, he344328, wf344329⟩ := show rk_36 I (F344179 q344324) from RS_o hT344180 ht344325
                            refine Gw_callS (As := [.ref q344324, .int g344279]) (gV_ok D I) (cp_1845_SpillForgeModel_has l hl0 D I P335986 F344179 q344324 g344279 f344329 hm344327 he344328 (gB_w bg344279' (by decide) (by decide))) dr_cX17_colours_192 ⟨wr_10_203, wr_1_14, wr_10_205, by decide, rfl, (Nat.le_of_ble_eq_true rfl), (Nat.le_of_ble_eq_true rfl)⟩ wr_10_204 (show 0 + 0 ≤ 0 by first | omega | decide) (show 0 + 0 ≤ 0 by first | omega | decide) (Nat.le_of_ble_eq_true rfl) (fun r344333 w344334 dc344330 ds344331 hp344332 => ?_) (fun _ _ _ _ _ z => z.elim)
                            rcases hp344332 with ⟨z344335, z344336, rfl, rfl, hdc, hds, r344337, r344338, r344339, r344340, r344341⟩ | ⟨z344342, z344343, rfl, rfl, hdc, hds, r344344, r344345, r344346, r344347, r344348⟩
                            · change G _ _ _ _ _ _ _ (.int 0 :: _) _ _ _
                              refine G_widen (cs' := 0) (sl' := 0) (by omega) (by omega) ?_
                              refine G_if_eq 212 dr_cX17_colours_195 (by decide +kernel) (fun _ => ?_) (fun hc => absurd hc (by decide))
                              obtain ⟨z344350, hz344350⟩ : ∃ z : Int32, z = g344279 + Int32.ofInt 1 := ⟨_, rfl⟩
                              have ez344350 : z344350.toInt = g344279.toInt + 1 := gI_inc hz344350 (by decide) bg344279' (by decide) (by decide)
                              have bz344350 : gB z344350 1 2000 := ⟨by omega, by omega⟩
                              refine G_iinc (L' := [(7, .int z344350), (5, .long gl344280), (4, .int z344209), (2, .int z344207), (3, .int g344177), (0, .ref q335988), (1, .int p335989)]) z344350 0 dr_cX17_colours_212 rfl hz344350.symm (Nat.le_of_ble_eq_true rfl) rfl ?_
                              refine G_goto 165 dr_cX17_colours_215 (by decide +kernel) ?_
                              exact ih165_344281 z344350 gl344280 (gB_w bz344350 (by decide) (by decide)) x344281 (fun k e1 ht => kt165_344282 k e1 (fun R c1 c2 c3 c4 => c3 g344279 gl344280 f344201 z344314 q344324 f344329 z344350 k e1 bg344279 x344281 r344312 fq344313 he344200 hz344314 bz344314 r344318 fq344319 hx344326 he344328 r344341 ez344350 (ht R c1 c2 c3 c4))) (mz_up ez344350 (Int.le_trans bg344279'.2 (by decide)) hm165_344281)
                            · change G _ _ _ _ _ _ _ (.int 1 :: _) _ _ _
                              refine G_widen (cs' := 0) (sl' := 0) (by omega) (by omega) ?_
                              refine G_if_eq 212 dr_cX17_colours_195 (by decide +kernel) (fun hc => absurd hc (by decide)) (fun _ => ?_)
                              refine G_lload 1 dr_cX17_colours_198 rfl ?_
                              refine G_lconst 1 dr_cX17_colours_200 rfl ?_
                              refine G_aload_n 5 dr_cX17_colours_201 rfl ?_
                              refine Gp_get 17 hm344190 he344189 dr_cX17_colours_202 (gk_X17 D I) (Nat.le_of_ble_eq_true rfl) wr_7_91 rfl ?_
                              refine G_iload 0 dr_cX17_colours_205 rfl ?_
                              refine Gp_iald 0 hm344199 he344200 dr_cX17_colours_207 rfl (gB_in bg344279' (by decide) (by decide)) (G_eqi (y := z344314) hz344314.symm ?_)
                              refine G_lshl dr_cX17_colours_208 (G_namL fun u344351 hu344351 => ?_)
                              have qu344351 : lb_Q u344351 (z344314.toInt % 64 + 1) := lb_Qshl hu344351 (by omega)
                              refine G_lor dr_cX17_colours_209 (G_namL fun u344352 hu344352 => ?_)
                              have qu344352 : lb_Q u344352 (32) := lb_Qor hu344352 x344281 (lb_Qw qu344351 (by omega))
                              refine G_lstore (L' := [(5, .long u344352), (7, .int g344279), (4, .int z344209), (2, .int z344207), (3, .int g344177), (0, .ref q335988), (1, .int p335989)]) dr_cX17_colours_210 (Nat.le_of_ble_eq_true rfl) rfl ?_
                              obtain ⟨z344353, hz344353⟩ : ∃ z : Int32, z = g344279 + Int32.ofInt 1 := ⟨_, rfl⟩
                              have ez344353 : z344353.toInt = g344279.toInt + 1 := gI_inc hz344353 (by decide) bg344279' (by decide) (by decide)
                              have bz344353 : gB z344353 1 2000 := ⟨by omega, by omega⟩
                              refine G_iinc (L' := [(7, .int z344353), (5, .long u344352), (4, .int z344209), (2, .int z344207), (3, .int g344177), (0, .ref q335988), (1, .int p335989)]) z344353 1 dr_cX17_colours_212 rfl hz344353.symm (Nat.le_of_ble_eq_true rfl) rfl ?_
                              refine G_goto 165 dr_cX17_colours_215 (by decide +kernel) ?_
                              exact ih165_344281 z344353 u344352 (gB_w bz344353 (by decide) (by decide)) qu344352 (fun k e1 ht => kt165_344282 k e1 (fun R c1 c2 c3 c4 => c4 g344279 gl344280 f344201 z344314 q344324 f344329 u344351 u344352 z344353 k e1 bg344279 x344281 r344312 fq344313 he344200 hz344314 bz344314 r344318 fq344319 hx344326 he344328 r344348 hu344351 hu344352 ez344353 (ht R c1 c2 c3 c4))) (mz_up ez344353 (Int.le_trans bg344279'.2 (by decide)) hm165_344281)
                    exact hlp165_344281 (((2001 : Int) - 0).toNat + 1) 0 0 (gB_w (gBl (show Int32.toInt 0 = 0 by decide)) (by decide) (by decide)) lb_Q0 (fun k e1 ht => ht) (Nat.lt_succ_self _)
              exact hlp144_344185 (((g343979.toInt : Int) - (-1)).toNat + 1) F343980 0 g343979 (gB_w (gBl (show Int32.toInt 0 = 0 by decide)) (by decide) (by decide)) bg343979 hT343981 hs343982 (by rw [cB_of he343994, cB_of he344000, cB_of he344003]; exact fun _ m s => Or.inl ((cq344005 m s).resolve_left (cq344008 (by omega) m))) (by have qa0 : Int32.toInt 0 = 0 := (by decide); omega) x343987 x343988 (fun k e1 e2 ht => ht) (Nat.lt_succ_self _)
            · have r344354 : 0 ≤ g343978.toInt := gj_nlt hc344009 (show Int32.toInt 0 = 0 by decide)
              have bg343978' : gB g343978 0 1999 := ⟨by omega, by omega⟩
              have r344355 := rcn_pos (cq344007 (by omega))
              have r344356 := cq344006
              have bg343979' : gB g343979 0 1999 := ⟨by omega, by omega⟩
              refine G_aload_n 2 dr_cX17_colours_74 rfl ?_
              have fq344357 : fR (F343980 q335988) 15 = (γ 9 15) := by rw [he343992]; rfl
              refine Gp_get 15 hm343993 he343992 dr_cX17_colours_75 (gk_X17 D I) (Nat.le_of_ble_eq_true rfl) wr_7_89 rfl ?_
              refine G_iload_n 1 dr_cX17_colours_78 rfl ?_
              refine G_iload_n 0 dr_cX17_colours_79 rfl ?_
              refine Gp_iast 0 hm343999 he344000 dr_cX17_colours_80 rfl (gB_in bg343979' (by decide) (by decide)) (fun F344358 e344359 n344360 => ?_)
              obtain ⟨f344361, hf344361⟩ : ∃ z, z = upd f344001 g343979.toNatClampNeg g343978 := ⟨_, rfl⟩
              rw [← hf344361] at e344359
              have he344362 : F344358 q335988 = .inr (22, [.ref (γ 9 0), .ref (γ 9 1), .ref (γ 9 2), .ref (γ 9 3), .ref (γ 9 4), .ref (γ 9 5), .ref (γ 9 6), .ref (γ 9 7), .ref (γ 9 8), .int p335995, .int p335996, .int p335997, .int p335998, .int p335999, .int p336000, .ref (γ 9 15), .ref (γ 9 16), .ref (γ 9 17), .ref (γ 9 18), .ref (γ 9 19), .ref (γ 9 20), .ref (γ 9 21), .ref (γ 9 22), .int p336001, .int p336002, .int p336003, .int p336004, .int p336005, .ref q335993, .ref (γ 9 29), .int p336006, .ref (γ 9 31), .int p336007, .int p336008, .int p336009, .ref q335994]) := (n344360 q335988 (rn_oa he343992 he344000)).trans he343992
              have he344363 : F344358 (γ 9 3) = .inl (I .boolean, 2000, .inl f336040) := (n344360 (γ 9 3) (rn_ty ht336015 ht336021 (by decide))).trans he343994
              have he344364 : F344358 (γ 9 18) = .inl (I .boolean, 2000, .inl f343998) := (n344360 (γ 9 18) (rn_ty ht336024 ht336021 (by decide))).trans he343997
              have he344365 : F344358 (γ 9 17) = .inl (I .int, 2000, .inl f344004) := (n344360 (γ 9 17) (rn_ty ht336023 ht336021 (by decide))).trans he344003
              have he344366 : F344358 (γ 9 15) = .inl (I .int, 2000, .inl f344361) := e344359
              have hs344367 : rStr γ [] F335987 F344358 := rStr_put hs343982 n344360 ht336021 (by decide)
              have kp344368 : F344358 q335988 = F335987 q335988 := (n344360 q335988 (rn_ty htq335988 ht336021 (by decide))).trans x343987
              have kp344369 : F344358 (γ 9 3) = F335987 (γ 9 3) := (n344360 (γ 9 3) (rn_ty ht336015 ht336021 (by decide))).trans x343988
              have bf344361 : gF f344361 0 1999 := gF_upd hf344361 bf344001 bg343978'
              obtain ⟨z344370, hz344370⟩ : ∃ z : Int32, z = g343979 + Int32.ofInt 1 := ⟨_, rfl⟩
              have ez344370 : z344370.toInt = g343979.toInt + 1 := gI_inc hz344370 (by decide) bg343979' (by decide) (by decide)
              have bz344370 : gB z344370 1 2000 := ⟨by omega, by omega⟩
              refine G_iinc (L' := [(2, .int z344370), (3, .int g343978), (0, .ref q335988), (1, .int p335989)]) z344370 1 dr_cX17_colours_81 rfl hz344370.symm (Nat.le_of_ble_eq_true rfl) rfl ?_
              refine G_aload_n 2 dr_cX17_colours_84 rfl ?_
              have fq344371 : fR (F344358 q335988) 18 = (γ 9 18) := by rw [he344362]; rfl
              refine Gp_get 18 hm343993 he344362 dr_cX17_colours_85 (gk_X17 D I) (Nat.le_of_ble_eq_true rfl) wr_7_92 rfl ?_
              refine G_iload_n 1 dr_cX17_colours_88 rfl ?_
              refine G_iconst 0 dr_cX17_colours_89 (by decide +kernel) ?_
              have hT344372 : RS D I P335986 F344358 γ el := RS_set hT343981 n344360 ht336021 (by decide) ⟨f344361, he344366, bf344361⟩
              refine Gp_zast 3 hm343996 he344364 dr_cX17_colours_90 rfl (gB_in bg343978' (by decide) (by decide)) (fun F344373 e344374 n344375 => ?_)
              obtain ⟨f344376, hf344376⟩ : ∃ z, z = upd f343998 g343978.toNatClampNeg (vp_nar .boolean 0) := ⟨_, rfl⟩
              rw [← hf344376] at e344374
              have he344377 : F344373 q335988 = .inr (22, [.ref (γ 9 0), .ref (γ 9 1), .ref (γ 9 2), .ref (γ 9 3), .ref (γ 9 4), .ref (γ 9 5), .ref (γ 9 6), .ref (γ 9 7), .ref (γ 9 8), .int p335995, .int p335996, .int p335997, .int p335998, .int p335999, .int p336000, .ref (γ 9 15), .ref (γ 9 16), .ref (γ 9 17), .ref (γ 9 18), .ref (γ 9 19), .ref (γ 9 20), .ref (γ 9 21), .ref (γ 9 22), .int p336001, .int p336002, .int p336003, .int p336004, .int p336005, .ref q335993, .ref (γ 9 29), .int p336006, .ref (γ 9 31), .int p336007, .int p336008, .int p336009, .ref q335994]) := (n344375 q335988 (rn_oa he344362 he344364)).trans he344362
              have he344378 : F344373 (γ 9 3) = .inl (I .boolean, 2000, .inl f336040) := (n344375 (γ 9 3) (rn_ty ht336015 ht336024 (by decide))).trans he344363
              have he344379 : F344373 (γ 9 15) = .inl (I .int, 2000, .inl f344361) := (n344375 (γ 9 15) (rn_ty ht336021 ht336024 (by decide))).trans he344366
              have he344380 : F344373 (γ 9 17) = .inl (I .int, 2000, .inl f344004) := (n344375 (γ 9 17) (rn_ty ht336023 ht336024 (by decide))).trans he344365
              have he344381 : F344373 (γ 9 18) = .inl (I .boolean, 2000, .inl f344376) := e344374
              have hs344382 : rStr γ [] F335987 F344373 := rStr_put hs344367 n344375 ht336024 (by decide)
              have kp344383 : F344373 q335988 = F335987 q335988 := (n344375 q335988 (rn_ty htq335988 ht336024 (by decide))).trans kp344368
              have kp344384 : F344373 (γ 9 3) = F335987 (γ 9 3) := (n344375 (γ 9 3) (rn_ty ht336015 ht336024 (by decide))).trans kp344369
              have bf344376 : gF f344376 0 1 := gF_upd hf344376 bf343998 (gB_w (gBl (show Int32.toInt 0 = 0 by decide)) (by decide) (by decide))
              have hT344386 : RS D I P335986 F344373 γ el := RS_set hT344372 n344375 ht336024 (by decide) ⟨f344376, he344381, bf344376⟩
              have td344385 := th_d hf344376 (by omega) (cq344007 (by omega))
              refine G_iconst 0 dr_cX17_colours_91 (by decide +kernel) ?_
              refine G_istore (L' := [(4, .int 0), (2, .int z344370), (3, .int g343978), (0, .ref q335988), (1, .int p335989)]) dr_cX17_colours_92 (Nat.le_of_ble_eq_true rfl) rfl ?_
              have hlp94_344479 : ∀ (n94_344479 : Nat) (F344472 : Nat → va_E) (g344471 : Int32), gB g344471 0 2000 → RS D I P335986 F344472 γ el → rStr γ [] F335987 F344472 → (∀ m : Nat, rSd (cB (F344472 (γ 9 3))) m → rSd (cB (F344472 (γ 9 18))) m ∨ ∃ i : Nat, (i : Int) < z344370.toInt ∧ (cB (F344472 (γ 9 15)) i).toInt = m) → (rcn (cB (F344472 (γ 9 18))) 2000 + (z344370.toInt : Int).toNat ≤ 2000) → (rcn (cB (F344472 (γ 9 18))) 2000 + 1 ≤ rcn (cB (F343980 (γ 9 18))) 2000) → (F344472 q335988 = F335987 q335988) → (F344472 (γ 9 3) = F335987 (γ 9 3)) → (∀ (k : Nat) (e1 : Nat → va_E), tl_RModel_colours_94 D I γ el P335986 F335987 z344370 F343980 q335988 g343978 F344472 g344471 k e1 → tl_RModel_colours_94 D I γ el P335986 F335987 z344370 F343980 q335988 g343978 F344373 (0 : Int32) k e1) → ((2001 : Int) - g344471.toInt).toNat < n94_344479 → G (gV D I) l (gRm 2 43 0 0) (gMA (gV D I) (pt_335990_SpillForgeModel_colours D I γ el P335986 F335987 q335988 p335989) gNA 0 0) ky_335990_SpillForgeModel_colours 94 [(4, .int g344471), (2, .int z344370), (3, .int g343978), (0, .ref q335988), (1, .int p335989)] [] (va_pl P335986 F344472) 0 0 := by
                intro n94_344479
                induction n94_344479 with
                | zero => intro F344472 g344471 bg344471 hT344473 hs344474 x344475 x344476 x344477 x344478 x344479 kt94_344480 hm94_344479; exact absurd hm94_344479 (Nat.not_lt_zero _)
                | succ n94_344479 ih94_344479 =>
                  intro F344472 g344471 bg344471 hT344473 hs344474 x344475 x344476 x344477 x344478 x344479 kt94_344480 hm94_344479
                  have hs344481 : rStr γ [] F344373 F344472 := fun b h0 hb hw => (hs344474 b h0 hb hw).trans (hs344382 b h0 hb hw).symm
                  have hs344482 : rStr γ [] F335987 F344472 := rStr_tr hs344382 hs344481
                  have he344483 : F344472 q335988 = .inr (22, [.ref (γ 9 0), .ref (γ 9 1), .ref (γ 9 2), .ref (γ 9 3), .ref (γ 9 4), .ref (γ 9 5), .ref (γ 9 6), .ref (γ 9 7), .ref (γ 9 8), .int p335995, .int p335996, .int p335997, .int p335998, .int p335999, .int p336000, .ref (γ 9 15), .ref (γ 9 16), .ref (γ 9 17), .ref (γ 9 18), .ref (γ 9 19), .ref (γ 9 20), .ref (γ 9 21), .ref (γ 9 22), .int p336001, .int p336002, .int p336003, .int p336004, .int p336005, .ref q335993, .ref (γ 9 29), .int p336006, .ref (γ 9 31), .int p336007, .int p336008, .int p336009, .ref q335994]) := x344478.trans he335992
                  have hm344484 : q335988 ∈ P335986 := RS_m hT344473 htq335988 (by decide)
                  have he344485 : F344472 (γ 9 3) = .inl (I .boolean, 2000, .inl f336040) := x344479.trans he336039
                  have hm344486 : (γ 9 3) ∈ P335986 := RS_m hT344473 ht336015 (by decide)
                  have hm344487 : (γ 9 18) ∈ P335986 := RS_m hT344473 ht336024 (by decide)
                  obtain ⟨f344489, he344488, bf344489⟩ := show rk_15 I (F344472 (γ 9 18)) from RS_o hT344473 ht336024
                  have hm344490 : (γ 9 15) ∈ P335986 := RS_m hT344473 ht336021 (by decide)
                  obtain ⟨f344492, he344491, bf344492⟩ := show rk_18 I (F344472 (γ 9 15)) from RS_o hT344473 ht336021
                  have hm344493 : (γ 9 17) ∈ P335986 := RS_m hT344473 ht336023 (by decide)
                  obtain ⟨f344495, he344494, bf344495⟩ := show rk_20 I (F344472 (γ 9 17)) from RS_o hT344473 ht336023
                  have cq344496 := x344475
                  rw [cB_of he344485, cB_of he344488, cB_of he344491] at cq344496
                  have cq344497 := x344476
                  rw [cB_of he344488] at cq344497
                  have cq344498 := x344477
                  rw [cB_of he344488] at cq344498
                  refine G_iload 0 dr_cX17_colours_94 rfl ?_
                  refine G_sipush 2000 dr_cX17_colours_96 (by decide +kernel) ?_
                  refine G_icmp_ge 133 dr_cX17_colours_99 (by decide +kernel) (fun hc344499 => ?_) (fun hc344499 => ?_)
                  · have r344500 : 2000 ≤ g344471.toInt := gj_leL hc344499 (show Int32.toInt 2000 = 2000 by decide)
                    have bg344471' : gB g344471 2000 2000 := ⟨by omega, by omega⟩
                    have hx344501 : tl_RModel_colours_94 D I γ el P335986 F335987 z344370 F343980 q335988 g343978 F344373 (0 : Int32) 133 F344472 := kt94_344480 133 F344472 (fun R c1 c2 c3 => c1 F344472 g344471 bg344471 hT344473 hs344474 x344475 x344476 x344477 x344478 x344479 r344500)
                    refine G_aload_n 3 dr_cX17_colours_133 rfl ?_
                    refine G_iload_n 4 dr_cX17_colours_134 rfl ?_
                    refine Gw_callV (As := [.int p335989]) (gV_ok D I) (ct_336786_SpillForgeModel_next l hl0 D I γ el P335986 F344472 q335988 p335989 hT344473 htq335988) dr_cX17_colours_135 ⟨wr_11_51, wr_1_14, wr_11_54, by decide, rfl, (Nat.le_of_ble_eq_true rfl), (Nat.le_of_ble_eq_true rfl)⟩ wr_11_53 wr_p_107 hm344484 he344483 rfl (show 0 + 0 ≤ 0 by first | omega | decide) (show 0 + 0 ≤ 0 by first | omega | decide) (Nat.le_of_ble_eq_true rfl) (fun r344505 w344506 dc344502 ds344503 hp344504 => ?_) (fun _ _ _ _ _ z => z.elim)
                    obtain ⟨o344507, rfl, rfl, hdc, hds, bo344507, x344508, x344509, ht344510⟩ := hp344504
                    change G _ _ _ _ _ _ _ (.int o344507 :: _) _ _ _
                    refine G_widen (cs' := 0) (sl' := 0) (by omega) (by omega) ?_
                    refine G_istore_n (L' := [(3, .int o344507), (4, .int g344471), (2, .int z344370), (0, .ref q335988), (1, .int p335989)]) dr_cX17_colours_138 (Nat.le_of_ble_eq_true rfl) rfl ?_
                    refine G_goto 70 dr_cX17_colours_139 (by decide +kernel) ?_
                    refine G_lv (L' := [(3, .int o344507), (2, .int z344370), (0, .ref q335988), (1, .int p335989)]) [0, 2, 3, 4] rfl ?_
                    exact ih70_343988 F344472 o344507 z344370 bo344507 (gB_w bz344370 (by decide) (by decide)) hT344473 hs344474 (by rw [cB_of he344485, cB_of he344488, cB_of he344491]; exact cq344496) (by rw [cB_of he344488]; exact cq344497) x344508 x344509 x344478 x344479 (fun k e1 e2 ht => kt70_343989 k e1 e2 (fun R c1 c2 => c2 F343980 g343978 g343979 f344001 f344361 F344358 z344370 f343998 f344376 F344373 F344472 o344507 k e1 e2 bg343978 bg343979 hT343981 hs343982 x343983 x343984 x343985 x343986 x343987 x343988 r344354 fq344357 he344000 hf344361 n344360 he344366 ez344370 fq344371 he344364 hf344376 n344375 he344381 hx344501 bo344507 x344508 x344509 ht344510 (ht R c1 c2))) (by have q := cq344498; rw [cB_of he343997] at q; rw [cB_of he344488]; rw [cB_of he343997] at hm70_343988; omega)
                  · have r344511 : g344471.toInt < 2000 := gj_nleL hc344499 (show Int32.toInt 2000 = 2000 by decide)
                    have bg344471' : gB g344471 0 1999 := ⟨by omega, by omega⟩
                    refine G_aload_n 3 dr_cX17_colours_102 rfl ?_
                    have fq344512 : fR (F344472 q335988) 1 = (γ 9 1) := by rw [he344483]; rfl
                    refine Gp_get 1 hm344484 he344483 dr_cX17_colours_103 (gk_X17 D I) (Nat.le_of_ble_eq_true rfl) wr_7_75 rfl ?_
                    refine G_iload_n 2 dr_cX17_colours_106 rfl ?_
                    have hm344513 : (γ 9 1) ∈ P335986 := RS_m hT344473 ht336013 (by decide)
                    obtain ⟨f344515, he344514, hg344516⟩ := show rk_13 I γ (F344472 (γ 9 1)) from RS_o hT344473 ht336013
                    obtain ⟨q344517, hx344519⟩ : ∃ x, x = γ 11 g343978.toInt.toNat := ⟨_, rfl⟩
                    have ht344518 : rKd γ q344517 36 := by rw [hx344519]; exact (hg344516 _ (show g343978.toInt.toNat < 2000 by omega)).2.1
                    refine Gp_aald 5 hm344513 he344514 dr_cX17_colours_107 rfl rfl (gB_in bg343978' (by decide) (by decide)) ?_
                    rw [show f344515 g343978.toNatClampNeg = some q344517 from (hg344516 _ (show g343978.toInt.toNat < 2000 by omega)).1.trans (by rw [hx344519])]
                    change G _ _ _ _ _ _ _ (.ref q344517 :: _) _ _ _
                    refine G_iload 0 dr_cX17_colours_108 rfl ?_
                    have hm344520 : q344517 ∈ P335986 := RS_m hT344473 ht344518 (by decide)
                    obtain ⟨f344522, he344521, wf344522⟩ := show rk_36 I (F344472 q344517) from RS_o hT344473 ht344518
                    refine Gw_callS (As := [.ref q344517, .int g344471]) (gV_ok D I) (cp_1845_SpillForgeModel_has l hl0 D I P335986 F344472 q344517 g344471 f344522 hm344520 he344521 (gB_w bg344471' (by decide) (by decide))) dr_cX17_colours_110 ⟨wr_10_203, wr_1_14, wr_10_205, by decide, rfl, (Nat.le_of_ble_eq_true rfl), (Nat.le_of_ble_eq_true rfl)⟩ wr_10_204 (show 0 + 0 ≤ 0 by first | omega | decide) (show 0 + 0 ≤ 0 by first | omega | decide) (Nat.le_of_ble_eq_true rfl) (fun r344526 w344527 dc344523 ds344524 hp344525 => ?_) (fun _ _ _ _ _ z => z.elim)
                    rcases hp344525 with ⟨z344528, z344529, rfl, rfl, hdc, hds, r344530, r344531, r344532, r344533, r344534⟩ | ⟨z344535, z344536, rfl, rfl, hdc, hds, r344537, r344538, r344539, r344540, r344541⟩
                    · change G _ _ _ _ _ _ _ (.int 0 :: _) _ _ _
                      refine G_widen (cs' := 0) (sl' := 0) (by omega) (by omega) ?_
                      refine G_if_eq 127 dr_cX17_colours_113 (by decide +kernel) (fun _ => ?_) (fun hc => absurd hc (by decide))
                      obtain ⟨z344543, hz344543⟩ : ∃ z : Int32, z = g344471 + Int32.ofInt 1 := ⟨_, rfl⟩
                      have ez344543 : z344543.toInt = g344471.toInt + 1 := gI_inc hz344543 (by decide) bg344471' (by decide) (by decide)
                      have bz344543 : gB z344543 1 2000 := ⟨by omega, by omega⟩
                      refine G_iinc (L' := [(4, .int z344543), (2, .int z344370), (3, .int g343978), (0, .ref q335988), (1, .int p335989)]) z344543 0 dr_cX17_colours_127 rfl hz344543.symm (Nat.le_of_ble_eq_true rfl) rfl ?_
                      refine G_goto 94 dr_cX17_colours_130 (by decide +kernel) ?_
                      exact ih94_344479 F344472 z344543 (gB_w bz344543 (by decide) (by decide)) hT344473 hs344474 (by rw [cB_of he344485, cB_of he344488, cB_of he344491]; exact cq344496) (by rw [cB_of he344488]; exact cq344497) (by rw [cB_of he344488]; exact cq344498) x344478 x344479 (fun k e1 ht => kt94_344480 k e1 (fun R c1 c2 c3 => c2 F344472 g344471 q344517 f344522 z344543 k e1 bg344471 hT344473 hs344474 x344475 x344476 x344477 x344478 x344479 r344511 fq344512 hx344519 he344521 r344534 ez344543 (ht R c1 c2 c3))) (mz_up ez344543 (Int.le_trans bg344471'.2 (by decide)) hm94_344479)
                    · change G _ _ _ _ _ _ _ (.int 1 :: _) _ _ _
                      refine G_widen (cs' := 0) (sl' := 0) (by omega) (by omega) ?_
                      refine G_if_eq 127 dr_cX17_colours_113 (by decide +kernel) (fun hc => absurd hc (by decide)) (fun _ => ?_)
                      refine G_aload_n 3 dr_cX17_colours_116 rfl ?_
                      have fq344544 : fR (F344472 q335988) 16 = (γ 9 16) := by rw [he344483]; rfl
                      refine Gp_get 16 hm344484 he344483 dr_cX17_colours_117 (gk_X17 D I) (Nat.le_of_ble_eq_true rfl) wr_7_90 rfl ?_
                      refine G_iload 0 dr_cX17_colours_120 rfl ?_
                      refine G_dup2_11 dr_cX17_colours_122 rfl rfl ?_
                      have hm344545 : (γ 9 16) ∈ P335986 := RS_m hT344473 ht336022 (by decide)
                      obtain ⟨f344547, he344546⟩ := show rk_19 I (F344472 (γ 9 16)) from RS_o hT344473 ht336022
                      refine Gp_iald 0 hm344545 he344546 dr_cX17_colours_123 rfl (gB_in bg344471' (by decide) (by decide)) (G_nam fun z344548 hz344548 => ?_)
                      have bz344548 : gB z344548 (-2147483648) 2147483647 := gB_any z344548
                      refine G_iconst 1 dr_cX17_colours_124 (by decide +kernel) ?_
                      refine G_isub dr_cX17_colours_125 (G_nam fun z344549 hz344549 => ?_)
                      have bz344549 : gB z344549 (-2147483648) 2147483647 := gB_any z344549
                      refine Gp_iast 0 hm344545 he344546 dr_cX17_colours_126 rfl (gB_in bg344471' (by decide) (by decide)) (fun F344550 e344551 n344552 => ?_)
                      obtain ⟨f344553, hf344553⟩ : ∃ z, z = upd f344547 g344471.toNatClampNeg z344549 := ⟨_, rfl⟩
                      rw [← hf344553] at e344551
                      have he344554 : F344550 q335988 = .inr (22, [.ref (γ 9 0), .ref (γ 9 1), .ref (γ 9 2), .ref (γ 9 3), .ref (γ 9 4), .ref (γ 9 5), .ref (γ 9 6), .ref (γ 9 7), .ref (γ 9 8), .int p335995, .int p335996, .int p335997, .int p335998, .int p335999, .int p336000, .ref (γ 9 15), .ref (γ 9 16), .ref (γ 9 17), .ref (γ 9 18), .ref (γ 9 19), .ref (γ 9 20), .ref (γ 9 21), .ref (γ 9 22), .int p336001, .int p336002, .int p336003, .int p336004, .int p336005, .ref q335993, .ref (γ 9 29), .int p336006, .ref (γ 9 31), .int p336007, .int p336008, .int p336009, .ref q335994]) := (n344552 q335988 (rn_oa he344483 he344546)).trans he344483
                      have he344555 : F344550 (γ 9 3) = .inl (I .boolean, 2000, .inl f336040) := (n344552 (γ 9 3) (rn_ty ht336015 ht336022 (by decide))).trans he344485
                      have he344556 : F344550 (γ 9 18) = .inl (I .boolean, 2000, .inl f344489) := (n344552 (γ 9 18) (rn_ty ht336024 ht336022 (by decide))).trans he344488
                      have he344557 : F344550 (γ 9 15) = .inl (I .int, 2000, .inl f344492) := (n344552 (γ 9 15) (rn_ty ht336021 ht336022 (by decide))).trans he344491
                      have he344558 : F344550 (γ 9 17) = .inl (I .int, 2000, .inl f344495) := (n344552 (γ 9 17) (rn_ty ht336023 ht336022 (by decide))).trans he344494
                      have he344559 : F344550 (γ 9 1) = .inl (I (.array .long), 2000, .inr (.inr (.inr (.inr f344515)))) := (n344552 (γ 9 1) (rn_ref_num he344514 he344546)).trans he344514
                      have he344560 : F344550 q344517 = .inl (I .long, 32, .inr (.inl f344522)) := (n344552 q344517 (rn_long_num he344521 he344546)).trans he344521
                      have he344561 : F344550 (γ 9 16) = .inl (I .int, 2000, .inl f344553) := e344551
                      have hs344562 : rStr γ [] F335987 F344550 := rStr_put hs344474 n344552 ht336022 (by decide)
                      have kp344563 : F344550 q335988 = F335987 q335988 := (n344552 q335988 (rn_ty htq335988 ht336022 (by decide))).trans x344478
                      have kp344564 : F344550 (γ 9 3) = F335987 (γ 9 3) := (n344552 (γ 9 3) (rn_ty ht336015 ht336022 (by decide))).trans x344479
                      obtain ⟨z344565, hz344565⟩ : ∃ z : Int32, z = g344471 + Int32.ofInt 1 := ⟨_, rfl⟩
                      have ez344565 : z344565.toInt = g344471.toInt + 1 := gI_inc hz344565 (by decide) bg344471' (by decide) (by decide)
                      have bz344565 : gB z344565 1 2000 := ⟨by omega, by omega⟩
                      refine G_iinc (L' := [(4, .int z344565), (2, .int z344370), (3, .int g343978), (0, .ref q335988), (1, .int p335989)]) z344565 0 dr_cX17_colours_127 rfl hz344565.symm (Nat.le_of_ble_eq_true rfl) rfl ?_
                      refine G_goto 94 dr_cX17_colours_130 (by decide +kernel) ?_
                      have hT344566 : RS D I P335986 F344550 γ el := RS_set hT344473 n344552 ht336022 (by decide) ⟨f344553, he344561⟩
                      exact ih94_344479 F344550 z344565 (gB_w bz344565 (by decide) (by decide)) hT344566 hs344562 (by rw [cB_of he344555, cB_of he344556, cB_of he344557]; exact cq344496) (by rw [cB_of he344556]; exact cq344497) (by rw [cB_of he344556]; exact cq344498) kp344563 kp344564 (fun k e1 ht => kt94_344480 k e1 (fun R c1 c2 c3 => c3 F344472 g344471 q344517 f344522 f344547 z344548 z344549 f344553 F344550 z344565 k e1 bg344471 hT344473 hs344474 x344475 x344476 x344477 x344478 x344479 r344511 fq344512 hx344519 he344521 r344541 fq344544 he344546 hz344548 hz344549 hf344553 n344552 he344561 ez344565 (ht R c1 c2 c3))) (mz_up ez344565 (Int.le_trans bg344471'.2 (by decide)) hm94_344479)
              exact hlp94_344479 (((2001 : Int) - 0).toNat + 1) F344373 0 (gB_w (gBl (show Int32.toInt 0 = 0 by decide)) (by decide) (by decide)) hT344386 hs344382 (by rw [ez344370]; rw [cB_of he344378, cB_of he344381, cB_of he344379]; exact pi_u hf344376 hf344361 (by omega) (by omega) cq344005) (by rw [cB_of he344381]; have q := td344385; have q2 := cq344006; omega) (by rw [cB_of he344381]; rw [cB_of he343997]; have q := td344385; omega) kp344383 kp344384 (fun k e1 ht => ht) (Nat.lt_succ_self _)
        exact hlp70_343988 ((rcn (cB (F343382 (γ 9 18))) 2000) + 1) F343382 o343413 0 bo343413 (gB_w (gBl (show Int32.toInt 0 = 0 by decide)) (by decide) (by decide)) hT343383 hs343384 (by rw [cB_of he343393, cB_of he343396, cB_of he343399]; exact fun m s => Or.inl (cq343404 m (by have := s.1; omega) s)) (by have q := rcn_le (g := cB (F343382 (γ 9 18))) 2000; have qa : Int32.toInt 0 = 0 := (by decide); omega) x343414 x343415 x343386 x343387 (fun k e1 e2 ht => ht) (Nat.lt_succ_self _)
      · have r344567 : g343381.toInt < 2000 := gj_nleL hc343405 (show Int32.toInt 2000 = 2000 by decide)
        have bg343381' : gB g343381 0 1999 := ⟨by omega, by omega⟩
        refine G_aload_n 1 dr_cX17_colours_9 rfl ?_
        have fq344568 : fR (F343382 q335988) 18 = (γ 9 18) := by rw [he343391]; rfl
        refine Gp_get 18 hm343392 he343391 dr_cX17_colours_10 (gk_X17 D I) (Nat.le_of_ble_eq_true rfl) wr_7_92 rfl ?_
        refine G_iload_n 0 dr_cX17_colours_13 rfl ?_
        refine G_aload_n 1 dr_cX17_colours_14 rfl ?_
        have fq344569 : fR (F343382 q335988) 3 = (γ 9 3) := by rw [he343391]; rfl
        refine Gp_get 3 hm343392 he343391 dr_cX17_colours_15 (gk_X17 D I) (Nat.le_of_ble_eq_true rfl) wr_7_77 rfl ?_
        refine G_iload_n 0 dr_cX17_colours_18 rfl ?_
        refine Gp_zald 3 hm343394 he343393 dr_cX17_colours_19 rfl (gB_in bg343381' (by decide) (by decide)) (G_nam fun z344570 hz344570 => ?_)
        have bz344570 : gB z344570 0 1 := by rw [hz344570]; exact bf336040 _
        refine Gp_zast 3 hm343395 he343396 dr_cX17_colours_20 rfl (gB_in bg343381' (by decide) (by decide)) (fun F344571 e344572 n344573 => ?_)
        obtain ⟨f344574, hf344574⟩ : ∃ z, z = upd f343397 g343381.toNatClampNeg (vp_nar .boolean z344570) := ⟨_, rfl⟩
        rw [← hf344574] at e344572
        have he344575 : F344571 q335988 = .inr (22, [.ref (γ 9 0), .ref (γ 9 1), .ref (γ 9 2), .ref (γ 9 3), .ref (γ 9 4), .ref (γ 9 5), .ref (γ 9 6), .ref (γ 9 7), .ref (γ 9 8), .int p335995, .int p335996, .int p335997, .int p335998, .int p335999, .int p336000, .ref (γ 9 15), .ref (γ 9 16), .ref (γ 9 17), .ref (γ 9 18), .ref (γ 9 19), .ref (γ 9 20), .ref (γ 9 21), .ref (γ 9 22), .int p336001, .int p336002, .int p336003, .int p336004, .int p336005, .ref q335993, .ref (γ 9 29), .int p336006, .ref (γ 9 31), .int p336007, .int p336008, .int p336009, .ref q335994]) := (n344573 q335988 (rn_oa he343391 he343396)).trans he343391
        have he344576 : F344571 (γ 9 3) = .inl (I .boolean, 2000, .inl f336040) := (n344573 (γ 9 3) (rn_ty ht336015 ht336024 (by decide))).trans he343393
        have he344577 : F344571 (γ 9 15) = .inl (I .int, 2000, .inl f343400) := (n344573 (γ 9 15) (rn_ty ht336021 ht336024 (by decide))).trans he343399
        have he344578 : F344571 (γ 9 17) = .inl (I .int, 2000, .inl f343403) := (n344573 (γ 9 17) (rn_ty ht336023 ht336024 (by decide))).trans he343402
        have he344579 : F344571 (γ 9 18) = .inl (I .boolean, 2000, .inl f344574) := e344572
        have hs344580 : rStr γ [] F335987 F344571 := rStr_put hs343384 n344573 ht336024 (by decide)
        have kp344581 : F344571 q335988 = F335987 q335988 := (n344573 q335988 (rn_ty htq335988 ht336024 (by decide))).trans x343386
        have kp344582 : F344571 (γ 9 3) = F335987 (γ 9 3) := (n344573 (γ 9 3) (rn_ty ht336015 ht336024 (by decide))).trans x343387
        have bf344574 : gF f344574 0 1 := gF_upd hf344574 bf343397 (gB_nb bz344570)
        refine G_aload_n 1 dr_cX17_colours_21 rfl ?_
        have fq344583 : fR (F344571 q335988) 16 = (γ 9 16) := by rw [he344575]; rfl
        refine Gp_get 16 hm343392 he344575 dr_cX17_colours_22 (gk_X17 D I) (Nat.le_of_ble_eq_true rfl) wr_7_90 rfl ?_
        refine G_iload_n 0 dr_cX17_colours_25 rfl ?_
        refine G_aload_n 1 dr_cX17_colours_26 rfl ?_
        have fq344584 : fR (F344571 q335988) 3 = (γ 9 3) := by rw [he344575]; rfl
        refine Gp_get 3 hm343392 he344575 dr_cX17_colours_27 (gk_X17 D I) (Nat.le_of_ble_eq_true rfl) wr_7_77 rfl ?_
        refine G_iload_n 0 dr_cX17_colours_30 rfl ?_
        refine Gp_zald 3 hm343394 he344576 dr_cX17_colours_31 rfl (gB_in bg343381' (by decide) (by decide)) (G_eqi (y := z344570) hz344570.symm ?_)
        refine G_if_eq 47 dr_cX17_colours_32 (by decide +kernel) (fun hc344585 => ?_) (fun hc344585 => ?_)
        · have r344586 : z344570.toInt = 0 := gj_eq hc344585 (show Int32.toInt 0 = 0 by decide)
          have bz344570' : gB z344570 0 0 := gB_t0 r344586
          refine G_iconst 0 dr_cX17_colours_47 (by decide +kernel) ?_
          have hT344587 : RS D I P335986 F344571 γ el := RS_set hT343383 n344573 ht336024 (by decide) ⟨f344574, he344579, bf344574⟩
          have hm344588 : (γ 9 16) ∈ P335986 := RS_m hT344587 ht336022 (by decide)
          obtain ⟨f344590, he344589⟩ := show rk_19 I (F344571 (γ 9 16)) from RS_o hT344587 ht336022
          refine Gp_iast 0 hm344588 he344589 dr_cX17_colours_48 rfl (gB_in bg343381' (by decide) (by decide)) (fun F344591 e344592 n344593 => ?_)
          obtain ⟨f344594, hf344594⟩ : ∃ z, z = upd f344590 g343381.toNatClampNeg 0 := ⟨_, rfl⟩
          rw [← hf344594] at e344592
          have he344595 : F344591 q335988 = .inr (22, [.ref (γ 9 0), .ref (γ 9 1), .ref (γ 9 2), .ref (γ 9 3), .ref (γ 9 4), .ref (γ 9 5), .ref (γ 9 6), .ref (γ 9 7), .ref (γ 9 8), .int p335995, .int p335996, .int p335997, .int p335998, .int p335999, .int p336000, .ref (γ 9 15), .ref (γ 9 16), .ref (γ 9 17), .ref (γ 9 18), .ref (γ 9 19), .ref (γ 9 20), .ref (γ 9 21), .ref (γ 9 22), .int p336001, .int p336002, .int p336003, .int p336004, .int p336005, .ref q335993, .ref (γ 9 29), .int p336006, .ref (γ 9 31), .int p336007, .int p336008, .int p336009, .ref q335994]) := (n344593 q335988 (rn_oa he344575 he344589)).trans he344575
          have he344596 : F344591 (γ 9 3) = .inl (I .boolean, 2000, .inl f336040) := (n344593 (γ 9 3) (rn_ty ht336015 ht336022 (by decide))).trans he344576
          have he344597 : F344591 (γ 9 18) = .inl (I .boolean, 2000, .inl f344574) := (n344593 (γ 9 18) (rn_ty ht336024 ht336022 (by decide))).trans he344579
          have he344598 : F344591 (γ 9 15) = .inl (I .int, 2000, .inl f343400) := (n344593 (γ 9 15) (rn_ty ht336021 ht336022 (by decide))).trans he344577
          have he344599 : F344591 (γ 9 17) = .inl (I .int, 2000, .inl f343403) := (n344593 (γ 9 17) (rn_ty ht336023 ht336022 (by decide))).trans he344578
          have he344600 : F344591 (γ 9 16) = .inl (I .int, 2000, .inl f344594) := e344592
          have hs344601 : rStr γ [] F335987 F344591 := rStr_put hs344580 n344593 ht336022 (by decide)
          have kp344602 : F344591 q335988 = F335987 q335988 := (n344593 q335988 (rn_ty htq335988 ht336022 (by decide))).trans kp344581
          have kp344603 : F344591 (γ 9 3) = F335987 (γ 9 3) := (n344593 (γ 9 3) (rn_ty ht336015 ht336022 (by decide))).trans kp344582
          refine G_aload_n 1 dr_cX17_colours_49 rfl ?_
          have fq344604 : fR (F344591 q335988) 17 = (γ 9 17) := by rw [he344595]; rfl
          refine Gp_get 17 hm343392 he344595 dr_cX17_colours_50 (gk_X17 D I) (Nat.le_of_ble_eq_true rfl) wr_7_91 rfl ?_
          refine G_iload_n 0 dr_cX17_colours_53 rfl ?_
          refine G_iconst (-1) dr_cX17_colours_54 (by decide +kernel) ?_
          have hT344605 : RS D I P335986 F344591 γ el := RS_set hT344587 n344593 ht336022 (by decide) ⟨f344594, he344600⟩
          refine Gp_iast 0 hm343401 he344599 dr_cX17_colours_55 rfl (gB_in bg343381' (by decide) (by decide)) (fun F344606 e344607 n344608 => ?_)
          obtain ⟨f344609, hf344609⟩ : ∃ z, z = upd f343403 g343381.toNatClampNeg (-1) := ⟨_, rfl⟩
          rw [← hf344609] at e344607
          have he344610 : F344606 q335988 = .inr (22, [.ref (γ 9 0), .ref (γ 9 1), .ref (γ 9 2), .ref (γ 9 3), .ref (γ 9 4), .ref (γ 9 5), .ref (γ 9 6), .ref (γ 9 7), .ref (γ 9 8), .int p335995, .int p335996, .int p335997, .int p335998, .int p335999, .int p336000, .ref (γ 9 15), .ref (γ 9 16), .ref (γ 9 17), .ref (γ 9 18), .ref (γ 9 19), .ref (γ 9 20), .ref (γ 9 21), .ref (γ 9 22), .int p336001, .int p336002, .int p336003, .int p336004, .int p336005, .ref q335993, .ref (γ 9 29), .int p336006, .ref (γ 9 31), .int p336007, .int p336008, .int p336009, .ref q335994]) := (n344608 q335988 (rn_oa he344595 he344599)).trans he344595
          have he344611 : F344606 (γ 9 3) = .inl (I .boolean, 2000, .inl f336040) := (n344608 (γ 9 3) (rn_ty ht336015 ht336023 (by decide))).trans he344596
          have he344612 : F344606 (γ 9 18) = .inl (I .boolean, 2000, .inl f344574) := (n344608 (γ 9 18) (rn_ty ht336024 ht336023 (by decide))).trans he344597
          have he344613 : F344606 (γ 9 15) = .inl (I .int, 2000, .inl f343400) := (n344608 (γ 9 15) (rn_ty ht336021 ht336023 (by decide))).trans he344598
          have he344614 : F344606 (γ 9 16) = .inl (I .int, 2000, .inl f344594) := (n344608 (γ 9 16) (rn_ty ht336022 ht336023 (by decide))).trans he344600
          have he344615 : F344606 (γ 9 17) = .inl (I .int, 2000, .inl f344609) := e344607
          have hs344616 : rStr γ [] F335987 F344606 := rStr_put hs344601 n344608 ht336023 (by decide)
          have kp344617 : F344606 q335988 = F335987 q335988 := (n344608 q335988 (rn_ty htq335988 ht336023 (by decide))).trans kp344602
          have kp344618 : F344606 (γ 9 3) = F335987 (γ 9 3) := (n344608 (γ 9 3) (rn_ty ht336015 ht336023 (by decide))).trans kp344603
          have bf344609 : gF f344609 (-1) 31 := gF_upd hf344609 bf343403 (gB_w (gBl (show Int32.toInt (-1) = (-1) by decide)) (by decide) (by decide))
          obtain ⟨z344619, hz344619⟩ : ∃ z : Int32, z = g343381 + Int32.ofInt 1 := ⟨_, rfl⟩
          have ez344619 : z344619.toInt = g343381.toInt + 1 := gI_inc hz344619 (by decide) bg343381' (by decide) (by decide)
          have bz344619 : gB z344619 1 2000 := ⟨by omega, by omega⟩
          refine G_iinc (L' := [(2, .int z344619), (0, .ref q335988), (1, .int p335989)]) z344619 0 dr_cX17_colours_56 rfl hz344619.symm (Nat.le_of_ble_eq_true rfl) rfl ?_
          refine G_goto 2 dr_cX17_colours_59 (by decide +kernel) ?_
          have hT344620 : RS D I P335986 F344606 γ el := RS_set hT344605 n344608 ht336023 (by decide) ⟨f344609, he344615, bf344609⟩
          exact ih2_343387 F344606 z344619 (gB_w bz344619 (by decide) (by decide)) hT344620 hs344616 (by rw [ez344619]; rw [cB_of he344611, cB_of he344612]; exact th_u hf344574 hz344570 (by assumption) (by omega) cq343404) kp344617 kp344618 (fun k e1 ht => kt2_343388 k e1 (fun R c1 c2 c3 => c2 F343382 g343381 f336040 z344570 f343397 f344574 F344571 f344590 f344594 F344591 f343403 f344609 F344606 z344619 k e1 bg343381 hT343383 hs343384 x343385 x343386 x343387 r344567 fq344568 fq344569 he343393 hz344570 bz344570 he343396 hf344574 n344573 he344579 fq344583 fq344584 he344576 r344586 he344589 hf344594 n344593 he344600 fq344604 he344599 hf344609 n344608 he344615 ez344619 (ht R c1 c2 c3))) (mz_up ez344619 (Int.le_trans bg343381'.2 (by decide)) hm2_343387)
        · have r344621 : z344570.toInt ≠ 0 := gj_neq hc344585 (show Int32.toInt 0 = 0 by decide)
          have bz344570' : gB z344570 1 1 := gB_t1 bz344570 r344621
          refine G_aload_n 1 dr_cX17_colours_35 rfl ?_
          have fq344622 : fR (F344571 q335988) 1 = (γ 9 1) := by rw [he344575]; rfl
          refine Gp_get 1 hm343392 he344575 dr_cX17_colours_36 (gk_X17 D I) (Nat.le_of_ble_eq_true rfl) wr_7_75 rfl ?_
          refine G_iload_n 0 dr_cX17_colours_39 rfl ?_
          have hT344623 : RS D I P335986 F344571 γ el := RS_set hT343383 n344573 ht336024 (by decide) ⟨f344574, he344579, bf344574⟩
          have hm344624 : (γ 9 1) ∈ P335986 := RS_m hT344623 ht336013 (by decide)
          obtain ⟨f344626, he344625, hg344627⟩ := show rk_13 I γ (F344571 (γ 9 1)) from RS_o hT344623 ht336013
          obtain ⟨q344628, hx344630⟩ : ∃ x, x = γ 11 g343381.toInt.toNat := ⟨_, rfl⟩
          have ht344629 : rKd γ q344628 36 := by rw [hx344630]; exact (hg344627 _ (show g343381.toInt.toNat < 2000 by omega)).2.1
          refine Gp_aald 5 hm344624 he344625 dr_cX17_colours_40 rfl rfl (gB_in bg343381' (by decide) (by decide)) ?_
          rw [show f344626 g343381.toNatClampNeg = some q344628 from (hg344627 _ (show g343381.toInt.toNat < 2000 by omega)).1.trans (by rw [hx344630])]
          change G _ _ _ _ _ _ _ (.ref q344628 :: _) _ _ _
          have hm344631 : q344628 ∈ P335986 := RS_m hT344623 ht344629 (by decide)
          obtain ⟨f344633, he344632, wf344633⟩ := show rk_36 I (F344571 q344628) from RS_o hT344623 ht344629
          refine Gw_callS (As := [.ref q344628]) (gV_ok D I) (cp_1899_SpillForgeModel_count l hl0 D I P335986 F344571 q344628 f344633 hm344631 he344632) dr_cX17_colours_41 ⟨wr_11_16, wr_1_14, wr_11_18, by decide, rfl, (Nat.le_of_ble_eq_true rfl), (Nat.le_of_ble_eq_true rfl)⟩ wr_11_17 (show 0 + 0 ≤ 0 by first | omega | decide) (show 0 + 0 ≤ 0 by first | omega | decide) (Nat.le_of_ble_eq_true rfl) (fun r344637 w344638 dc344634 ds344635 hp344636 => ?_) (fun _ _ _ _ _ z => z.elim)
          obtain ⟨o344639, rfl, rfl, hdc, hds, ht344640⟩ := hp344636
          have bo344639 := gB_any o344639
          change G _ _ _ _ _ _ _ (.int o344639 :: _) _ _ _
          refine G_widen (cs' := 0) (sl' := 0) (by omega) (by omega) ?_
          refine G_goto 48 dr_cX17_colours_44 (by decide +kernel) ?_
          have hm344641 : (γ 9 16) ∈ P335986 := RS_m hT344623 ht336022 (by decide)
          obtain ⟨f344643, he344642⟩ := show rk_19 I (F344571 (γ 9 16)) from RS_o hT344623 ht336022
          refine Gp_iast 0 hm344641 he344642 dr_cX17_colours_48 rfl (gB_in bg343381' (by decide) (by decide)) (fun F344644 e344645 n344646 => ?_)
          obtain ⟨f344647, hf344647⟩ : ∃ z, z = upd f344643 g343381.toNatClampNeg o344639 := ⟨_, rfl⟩
          rw [← hf344647] at e344645
          have he344648 : F344644 q335988 = .inr (22, [.ref (γ 9 0), .ref (γ 9 1), .ref (γ 9 2), .ref (γ 9 3), .ref (γ 9 4), .ref (γ 9 5), .ref (γ 9 6), .ref (γ 9 7), .ref (γ 9 8), .int p335995, .int p335996, .int p335997, .int p335998, .int p335999, .int p336000, .ref (γ 9 15), .ref (γ 9 16), .ref (γ 9 17), .ref (γ 9 18), .ref (γ 9 19), .ref (γ 9 20), .ref (γ 9 21), .ref (γ 9 22), .int p336001, .int p336002, .int p336003, .int p336004, .int p336005, .ref q335993, .ref (γ 9 29), .int p336006, .ref (γ 9 31), .int p336007, .int p336008, .int p336009, .ref q335994]) := (n344646 q335988 (rn_oa he344575 he344642)).trans he344575
          have he344649 : F344644 (γ 9 3) = .inl (I .boolean, 2000, .inl f336040) := (n344646 (γ 9 3) (rn_ty ht336015 ht336022 (by decide))).trans he344576
          have he344650 : F344644 (γ 9 18) = .inl (I .boolean, 2000, .inl f344574) := (n344646 (γ 9 18) (rn_ty ht336024 ht336022 (by decide))).trans he344579
          have he344651 : F344644 (γ 9 15) = .inl (I .int, 2000, .inl f343400) := (n344646 (γ 9 15) (rn_ty ht336021 ht336022 (by decide))).trans he344577
          have he344652 : F344644 (γ 9 17) = .inl (I .int, 2000, .inl f343403) := (n344646 (γ 9 17) (rn_ty ht336023 ht336022 (by decide))).trans he344578
          have he344653 : F344644 (γ 9 1) = .inl (I (.array .long), 2000, .inr (.inr (.inr (.inr f344626)))) := (n344646 (γ 9 1) (rn_ref_num he344625 he344642)).trans he344625
          have he344654 : F344644 q344628 = .inl (I .long, 32, .inr (.inl f344633)) := (n344646 q344628 (rn_long_num he344632 he344642)).trans he344632
          have he344655 : F344644 (γ 9 16) = .inl (I .int, 2000, .inl f344647) := e344645
          have hs344656 : rStr γ [] F335987 F344644 := rStr_put hs344580 n344646 ht336022 (by decide)
          have kp344657 : F344644 q335988 = F335987 q335988 := (n344646 q335988 (rn_ty htq335988 ht336022 (by decide))).trans kp344581
          have kp344658 : F344644 (γ 9 3) = F335987 (γ 9 3) := (n344646 (γ 9 3) (rn_ty ht336015 ht336022 (by decide))).trans kp344582
          refine G_aload_n 1 dr_cX17_colours_49 rfl ?_
          have fq344659 : fR (F344644 q335988) 17 = (γ 9 17) := by rw [he344648]; rfl
          refine Gp_get 17 hm343392 he344648 dr_cX17_colours_50 (gk_X17 D I) (Nat.le_of_ble_eq_true rfl) wr_7_91 rfl ?_
          refine G_iload_n 0 dr_cX17_colours_53 rfl ?_
          refine G_iconst (-1) dr_cX17_colours_54 (by decide +kernel) ?_
          have hT344660 : RS D I P335986 F344644 γ el := RS_set hT344623 n344646 ht336022 (by decide) ⟨f344647, he344655⟩
          refine Gp_iast 0 hm343401 he344652 dr_cX17_colours_55 rfl (gB_in bg343381' (by decide) (by decide)) (fun F344661 e344662 n344663 => ?_)
          obtain ⟨f344664, hf344664⟩ : ∃ z, z = upd f343403 g343381.toNatClampNeg (-1) := ⟨_, rfl⟩
          rw [← hf344664] at e344662
          have he344665 : F344661 q335988 = .inr (22, [.ref (γ 9 0), .ref (γ 9 1), .ref (γ 9 2), .ref (γ 9 3), .ref (γ 9 4), .ref (γ 9 5), .ref (γ 9 6), .ref (γ 9 7), .ref (γ 9 8), .int p335995, .int p335996, .int p335997, .int p335998, .int p335999, .int p336000, .ref (γ 9 15), .ref (γ 9 16), .ref (γ 9 17), .ref (γ 9 18), .ref (γ 9 19), .ref (γ 9 20), .ref (γ 9 21), .ref (γ 9 22), .int p336001, .int p336002, .int p336003, .int p336004, .int p336005, .ref q335993, .ref (γ 9 29), .int p336006, .ref (γ 9 31), .int p336007, .int p336008, .int p336009, .ref q335994]) := (n344663 q335988 (rn_oa he344648 he344652)).trans he344648
          have he344666 : F344661 (γ 9 3) = .inl (I .boolean, 2000, .inl f336040) := (n344663 (γ 9 3) (rn_ty ht336015 ht336023 (by decide))).trans he344649
          have he344667 : F344661 (γ 9 18) = .inl (I .boolean, 2000, .inl f344574) := (n344663 (γ 9 18) (rn_ty ht336024 ht336023 (by decide))).trans he344650
          have he344668 : F344661 (γ 9 15) = .inl (I .int, 2000, .inl f343400) := (n344663 (γ 9 15) (rn_ty ht336021 ht336023 (by decide))).trans he344651
          have he344669 : F344661 (γ 9 1) = .inl (I (.array .long), 2000, .inr (.inr (.inr (.inr f344626)))) := (n344663 (γ 9 1) (rn_ref_num he344653 he344652)).trans he344653
          have he344670 : F344661 q344628 = .inl (I .long, 32, .inr (.inl f344633)) := (n344663 q344628 (rn_long_num he344654 he344652)).trans he344654
          have he344671 : F344661 (γ 9 16) = .inl (I .int, 2000, .inl f344647) := (n344663 (γ 9 16) (rn_ty ht336022 ht336023 (by decide))).trans he344655
          have he344672 : F344661 (γ 9 17) = .inl (I .int, 2000, .inl f344664) := e344662
          have hs344673 : rStr γ [] F335987 F344661 := rStr_put hs344656 n344663 ht336023 (by decide)
          have kp344674 : F344661 q335988 = F335987 q335988 := (n344663 q335988 (rn_ty htq335988 ht336023 (by decide))).trans kp344657
          have kp344675 : F344661 (γ 9 3) = F335987 (γ 9 3) := (n344663 (γ 9 3) (rn_ty ht336015 ht336023 (by decide))).trans kp344658
          have bf344664 : gF f344664 (-1) 31 := gF_upd hf344664 bf343403 (gB_w (gBl (show Int32.toInt (-1) = (-1) by decide)) (by decide) (by decide))
          obtain ⟨z344676, hz344676⟩ : ∃ z : Int32, z = g343381 + Int32.ofInt 1 := ⟨_, rfl⟩
          have ez344676 : z344676.toInt = g343381.toInt + 1 := gI_inc hz344676 (by decide) bg343381' (by decide) (by decide)
          have bz344676 : gB z344676 1 2000 := ⟨by omega, by omega⟩
          refine G_iinc (L' := [(2, .int z344676), (0, .ref q335988), (1, .int p335989)]) z344676 0 dr_cX17_colours_56 rfl hz344676.symm (Nat.le_of_ble_eq_true rfl) rfl ?_
          refine G_goto 2 dr_cX17_colours_59 (by decide +kernel) ?_
          have hT344677 : RS D I P335986 F344661 γ el := RS_set hT344660 n344663 ht336023 (by decide) ⟨f344664, he344672, bf344664⟩
          exact ih2_343387 F344661 z344676 (gB_w bz344676 (by decide) (by decide)) hT344677 hs344673 (by rw [ez344676]; rw [cB_of he344666, cB_of he344667]; exact th_u hf344574 hz344570 (by assumption) (by omega) cq343404) kp344674 kp344675 (fun k e1 ht => kt2_343388 k e1 (fun R c1 c2 c3 => c3 F343382 g343381 f336040 z344570 f343397 f344574 F344571 q344628 f344633 o344639 f344643 f344647 F344644 f343403 f344664 F344661 z344676 k e1 bg343381 hT343383 hs343384 x343385 x343386 x343387 r344567 fq344568 fq344569 he343393 hz344570 bz344570 he343396 hf344574 n344573 he344579 fq344583 fq344584 he344576 r344621 fq344622 hx344630 he344632 ht344640 he344642 hf344647 n344646 he344655 fq344659 he344652 hf344664 n344663 he344672 ez344676 (ht R c1 c2 c3))) (mz_up ez344676 (Int.le_trans bg343381'.2 (by decide)) hm2_343387)
  exact hlp2_343387 (((2001 : Int) - 0).toNat + 1) F335987 0 (gB_w (gBl (show Int32.toInt 0 = 0 by decide)) (by decide) (by decide)) hT (rStr_rf (γ := γ) (W := []) (F := F335987)) (fun m hm => absurd hm (by have qa : Int32.toInt 0 = 0 := (by decide); omega)) rfl rfl (fun k e1 ht => ht) (Nat.lt_succ_self _)
/- tr_RModel_coloured: F -/
def tr_RModel_coloured (D : va_G) (I : FieldType → ClassId) (γ el : Nat → Nat → Nat) (F : Nat → va_E) (q0 : Nat) (q1 : Nat) (o1 : Nat → va_E) : Prop := ∀ R : (Nat → va_E) → Prop,
  (∀ (x1 : Int32) (x2 : Int32) (x3 : Int32) (x4 : Int32) (x5 : Int32) (x6 : Int32), fI (F q1) 0 = x1 → fI (F q1) 5 = x2 → gB x3 0 1 → tr_RRow_usesA2 x1 x2 x3 → x3.toInt = 0 → fI (F q1) 6 = x4 → gB x5 0 1 → tr_RRow_usesB2 x1 x4 x5 → x5.toInt = 0 → gB x6 0 1 → tr_RRow_sets2 x1 x6 → x6.toInt = 0 → R F) →
  (∀ (x1 : Int32) (x2 : Int32) (x3 : Int32) (x4 : Int32) (x5 : Int32) (x6 : Int32) (x7 : Int32) (x8 : Nat → Int32) (x9 : Int32) (x10 : Nat → va_E), fI (F q1) 0 = x1 → fI (F q1) 5 = x2 → gB x3 0 1 → tr_RRow_usesA2 x1 x2 x3 → x3.toInt = 0 → fI (F q1) 6 = x4 → gB x5 0 1 → tr_RRow_usesB2 x1 x4 x5 → x5.toInt = 0 → gB x6 0 1 → tr_RRow_sets2 x1 x6 → x6.toInt ≠ 0 → fR (F q0) 17 = (γ 9 17) → fI (F q1) 1 = x7 → F (γ 9 17) = .inl (I .int, 2000, .inl x8) → x9 = x8 x7.toNatClampNeg → gB x9 (-1) 31 → (∀ b, b ≠ q1 → x10 b = F b) → x10 q1 = cF (F q1) 1 (.int x9) → R x10) →
  (∀ (x1 : Int32) (x2 : Int32) (x3 : Int32) (x4 : Int32) (x5 : Int32) (x6 : Int32) (x7 : Nat → Int32) (x8 : Int32) (x9 : Nat → va_E) (x10 : Int32), fI (F q1) 0 = x1 → fI (F q1) 5 = x2 → gB x3 0 1 → tr_RRow_usesA2 x1 x2 x3 → x3.toInt = 0 → fI (F q1) 6 = x4 → gB x5 0 1 → tr_RRow_usesB2 x1 x4 x5 → x5.toInt ≠ 0 → fR (F q0) 17 = (γ 9 17) → fI (F q1) 3 = x6 → F (γ 9 17) = .inl (I .int, 2000, .inl x7) → x8 = x7 x6.toNatClampNeg → gB x8 (-1) 31 → (∀ b, b ≠ q1 → x9 b = F b) → x9 q1 = cF (F q1) 3 (.int x8) → fI (x9 q1) 0 = x1 → gB x10 0 1 → tr_RRow_sets2 x1 x10 → x10.toInt = 0 → R x9) →
  (∀ (x1 : Int32) (x2 : Int32) (x3 : Int32) (x4 : Int32) (x5 : Int32) (x6 : Int32) (x7 : Nat → Int32) (x8 : Int32) (x9 : Nat → va_E) (x10 : Int32) (x11 : Int32) (x12 : Int32) (x13 : Nat → va_E), fI (F q1) 0 = x1 → fI (F q1) 5 = x2 → gB x3 0 1 → tr_RRow_usesA2 x1 x2 x3 → x3.toInt = 0 → fI (F q1) 6 = x4 → gB x5 0 1 → tr_RRow_usesB2 x1 x4 x5 → x5.toInt ≠ 0 → fR (F q0) 17 = (γ 9 17) → fI (F q1) 3 = x6 → F (γ 9 17) = .inl (I .int, 2000, .inl x7) → x8 = x7 x6.toNatClampNeg → gB x8 (-1) 31 → (∀ b, b ≠ q1 → x9 b = F b) → x9 q1 = cF (F q1) 3 (.int x8) → fI (x9 q1) 0 = x1 → gB x10 0 1 → tr_RRow_sets2 x1 x10 → x10.toInt ≠ 0 → fR (x9 q0) 17 = (γ 9 17) → fI (x9 q1) 1 = x11 → x9 (γ 9 17) = .inl (I .int, 2000, .inl x7) → x12 = x7 x11.toNatClampNeg → gB x12 (-1) 31 → (∀ b, b ≠ q1 → x13 b = x9 b) → x13 q1 = cF (x9 q1) 1 (.int x12) → R x13) →
  (∀ (x1 : Int32) (x2 : Int32) (x3 : Int32) (x4 : Int32) (x5 : Nat → Int32) (x6 : Int32) (x7 : Nat → va_E) (x8 : Int32) (x9 : Int32) (x10 : Int32), fI (F q1) 0 = x1 → fI (F q1) 5 = x2 → gB x3 0 1 → tr_RRow_usesA2 x1 x2 x3 → x3.toInt ≠ 0 → fR (F q0) 17 = (γ 9 17) → fI (F q1) 2 = x4 → F (γ 9 17) = .inl (I .int, 2000, .inl x5) → x6 = x5 x4.toNatClampNeg → gB x6 (-1) 31 → (∀ b, b ≠ q1 → x7 b = F b) → x7 q1 = cF (F q1) 2 (.int x6) → fI (x7 q1) 0 = x1 → fI (x7 q1) 6 = x8 → gB x9 0 1 → tr_RRow_usesB2 x1 x8 x9 → x9.toInt = 0 → gB x10 0 1 → tr_RRow_sets2 x1 x10 → x10.toInt = 0 → R x7) →
  (∀ (x1 : Int32) (x2 : Int32) (x3 : Int32) (x4 : Int32) (x5 : Nat → Int32) (x6 : Int32) (x7 : Nat → va_E) (x8 : Int32) (x9 : Int32) (x10 : Int32) (x11 : Int32) (x12 : Int32) (x13 : Nat → va_E), fI (F q1) 0 = x1 → fI (F q1) 5 = x2 → gB x3 0 1 → tr_RRow_usesA2 x1 x2 x3 → x3.toInt ≠ 0 → fR (F q0) 17 = (γ 9 17) → fI (F q1) 2 = x4 → F (γ 9 17) = .inl (I .int, 2000, .inl x5) → x6 = x5 x4.toNatClampNeg → gB x6 (-1) 31 → (∀ b, b ≠ q1 → x7 b = F b) → x7 q1 = cF (F q1) 2 (.int x6) → fI (x7 q1) 0 = x1 → fI (x7 q1) 6 = x8 → gB x9 0 1 → tr_RRow_usesB2 x1 x8 x9 → x9.toInt = 0 → gB x10 0 1 → tr_RRow_sets2 x1 x10 → x10.toInt ≠ 0 → fR (x7 q0) 17 = (γ 9 17) → fI (x7 q1) 1 = x11 → x7 (γ 9 17) = .inl (I .int, 2000, .inl x5) → x12 = x5 x11.toNatClampNeg → gB x12 (-1) 31 → (∀ b, b ≠ q1 → x13 b = x7 b) → x13 q1 = cF (x7 q1) 1 (.int x12) → R x13) →
  (∀ (x1 : Int32) (x2 : Int32) (x3 : Int32) (x4 : Int32) (x5 : Nat → Int32) (x6 : Int32) (x7 : Nat → va_E) (x8 : Int32) (x9 : Int32) (x10 : Int32) (x11 : Int32) (x12 : Nat → va_E) (x13 : Int32), fI (F q1) 0 = x1 → fI (F q1) 5 = x2 → gB x3 0 1 → tr_RRow_usesA2 x1 x2 x3 → x3.toInt ≠ 0 → fR (F q0) 17 = (γ 9 17) → fI (F q1) 2 = x4 → F (γ 9 17) = .inl (I .int, 2000, .inl x5) → x6 = x5 x4.toNatClampNeg → gB x6 (-1) 31 → (∀ b, b ≠ q1 → x7 b = F b) → x7 q1 = cF (F q1) 2 (.int x6) → fI (x7 q1) 0 = x1 → fI (x7 q1) 6 = x8 → gB x9 0 1 → tr_RRow_usesB2 x1 x8 x9 → x9.toInt ≠ 0 → fR (x7 q0) 17 = (γ 9 17) → fI (x7 q1) 3 = x10 → x7 (γ 9 17) = .inl (I .int, 2000, .inl x5) → x11 = x5 x10.toNatClampNeg → gB x11 (-1) 31 → (∀ b, b ≠ q1 → x12 b = x7 b) → x12 q1 = cF (x7 q1) 3 (.int x11) → fI (x12 q1) 0 = x1 → gB x13 0 1 → tr_RRow_sets2 x1 x13 → x13.toInt = 0 → R x12) →
  (∀ (x1 : Int32) (x2 : Int32) (x3 : Int32) (x4 : Int32) (x5 : Nat → Int32) (x6 : Int32) (x7 : Nat → va_E) (x8 : Int32) (x9 : Int32) (x10 : Int32) (x11 : Int32) (x12 : Nat → va_E) (x13 : Int32) (x14 : Int32) (x15 : Int32) (x16 : Nat → va_E), fI (F q1) 0 = x1 → fI (F q1) 5 = x2 → gB x3 0 1 → tr_RRow_usesA2 x1 x2 x3 → x3.toInt ≠ 0 → fR (F q0) 17 = (γ 9 17) → fI (F q1) 2 = x4 → F (γ 9 17) = .inl (I .int, 2000, .inl x5) → x6 = x5 x4.toNatClampNeg → gB x6 (-1) 31 → (∀ b, b ≠ q1 → x7 b = F b) → x7 q1 = cF (F q1) 2 (.int x6) → fI (x7 q1) 0 = x1 → fI (x7 q1) 6 = x8 → gB x9 0 1 → tr_RRow_usesB2 x1 x8 x9 → x9.toInt ≠ 0 → fR (x7 q0) 17 = (γ 9 17) → fI (x7 q1) 3 = x10 → x7 (γ 9 17) = .inl (I .int, 2000, .inl x5) → x11 = x5 x10.toNatClampNeg → gB x11 (-1) 31 → (∀ b, b ≠ q1 → x12 b = x7 b) → x12 q1 = cF (x7 q1) 3 (.int x11) → fI (x12 q1) 0 = x1 → gB x13 0 1 → tr_RRow_sets2 x1 x13 → x13.toInt ≠ 0 → fR (x12 q0) 17 = (γ 9 17) → fI (x12 q1) 1 = x14 → x12 (γ 9 17) = .inl (I .int, 2000, .inl x5) → x15 = x5 x14.toNatClampNeg → gB x15 (-1) 31 → (∀ b, b ≠ q1 → x16 b = x12 b) → x16 q1 = cF (x12 q1) 1 (.int x15) → R x16) →
  R o1
