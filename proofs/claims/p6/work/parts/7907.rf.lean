theorem dr_cX17_colours_0 : decode cX17_colours 0 = .ok (.iconst 0, 1) := by decide +kernel
theorem dr_cX17_colours_1 : decode cX17_colours 1 = .ok (.istore_n 2, 1) := by decide +kernel
theorem dr_cX17_colours_2 : decode cX17_colours 2 = .ok (.iload_n 2, 1) := by decide +kernel
theorem dr_cX17_colours_3 : decode cX17_colours 3 = .ok (.sipush 2000, 3) := by decide +kernel
theorem dr_cX17_colours_6 : decode cX17_colours 6 = .ok (.if_icmp .ge 56, 3) := by decide +kernel
theorem dr_cX17_colours_62 : decode cX17_colours 62 = .ok (.iconst 0, 1) := by decide +kernel
theorem dr_cX17_colours_63 : decode cX17_colours 63 = .ok (.istore_n 2, 1) := by decide +kernel
theorem dr_cX17_colours_64 : decode cX17_colours 64 = .ok (.aload_n 0, 1) := by decide +kernel
theorem dr_cX17_colours_65 : decode cX17_colours 65 = .ok (.iload_n 1, 1) := by decide +kernel
theorem dr_cX17_colours_66 : decode cX17_colours 66 = .ok (.invokevirtual 215, 3) := by decide +kernel
theorem wr_11_51 : (Jvm.Cond.methodLink "SpillForgeModel" (215 : Nat) ({ cls := "SpillForgeModel", name := "next", desc := "(I)I" } : Jvm.MethodName)) ∈ gw := gw_11 51 rfl rfl
theorem wr_11_54 : (Jvm.Cond.code ({ cls := "SpillForgeModel", name := "next", desc := "(I)I" } : Jvm.MethodName) prog_14_method_20_code (7 : Nat) (Option.some Jvm.ClassFile.FieldType.int)) ∈ gw := gw_11 54 rfl rfl
theorem wr_11_53 : (Jvm.Cond.instanceMethod ({ cls := "SpillForgeModel", name := "next", desc := "(I)I" } : Jvm.MethodName)) ∈ gw := gw_11 53 rfl rfl
theorem wr_p_107 : Cond.selects "SpillForgeModel" ⟨"SpillForgeModel", "next", "(I)I"⟩ ⟨"SpillForgeModel", "next", "(I)I"⟩ ∈ gw := gw_p _ 107 rfl rfl rfl
theorem dr_cX17_colours_69 : decode cX17_colours 69 = .ok (.istore_n 3, 1) := by decide +kernel
theorem dr_cX17_colours_70 : decode cX17_colours 70 = .ok (.iload_n 3, 1) := by decide +kernel
theorem dr_cX17_colours_71 : decode cX17_colours 71 = .ok (.ifCond .lt 71, 3) := by decide +kernel
theorem dr_cX17_colours_142 : decode cX17_colours 142 = .ok (.iconst 0, 1) := by decide +kernel
theorem dr_cX17_colours_143 : decode cX17_colours 143 = .ok (.istore_n 3, 1) := by decide +kernel
theorem dr_cX17_colours_144 : decode cX17_colours 144 = .ok (.iload_n 2, 1) := by decide +kernel
theorem dr_cX17_colours_145 : decode cX17_colours 145 = .ok (.ifCond .le 108, 3) := by decide +kernel
theorem dr_cX17_colours_253 : decode cX17_colours 253 = .ok (.iload_n 3, 1) := by decide +kernel
theorem dr_cX17_colours_254 : decode cX17_colours 254 = .ok (.ireturn, 1) := by decide +kernel
theorem dr_cX17_colours_148 : decode cX17_colours 148 = .ok (.iinc 2 (-1), 3) := by decide +kernel
theorem dr_cX17_colours_151 : decode cX17_colours 151 = .ok (.aload_n 0, 1) := by decide +kernel
theorem dr_cX17_colours_152 : decode cX17_colours 152 = .ok (.getfield 218, 3) := by decide +kernel
theorem wr_7_89 : (Jvm.Cond.fieldLink "SpillForgeModel" (218 : Nat) "SpillForgeModel" "pile" "[I") ∈ gw := gw_7 89 rfl rfl
theorem dr_cX17_colours_155 : decode cX17_colours 155 = .ok (.iload_n 2, 1) := by decide +kernel
theorem dr_cX17_colours_156 : decode cX17_colours 156 = .ok (.iaload, 1) := by decide +kernel
theorem dr_cX17_colours_157 : decode cX17_colours 157 = .ok (.istore 4, 2) := by decide +kernel
theorem dr_cX17_colours_159 : decode cX17_colours 159 = .ok (.lconst 0, 1) := by decide +kernel
theorem dr_cX17_colours_160 : decode cX17_colours 160 = .ok (.lstore 5, 2) := by decide +kernel
theorem dr_cX17_colours_162 : decode cX17_colours 162 = .ok (.iconst 0, 1) := by decide +kernel
theorem dr_cX17_colours_163 : decode cX17_colours 163 = .ok (.istore 7, 2) := by decide +kernel
theorem dr_cX17_colours_165 : decode cX17_colours 165 = .ok (.iload 7, 2) := by decide +kernel
theorem dr_cX17_colours_167 : decode cX17_colours 167 = .ok (.sipush 2000, 3) := by decide +kernel
theorem dr_cX17_colours_170 : decode cX17_colours 170 = .ok (.if_icmp .ge 48, 3) := by decide +kernel
theorem dr_cX17_colours_218 : decode cX17_colours 218 = .ok (.lload 5, 2) := by decide +kernel
theorem dr_cX17_colours_220 : decode cX17_colours 220 = .ok (.ldc2_w 31, 3) := by decide +kernel
theorem dr_cX17_colours_223 : decode cX17_colours 223 = .ok (.lxor, 1) := by decide +kernel
theorem dr_cX17_colours_224 : decode cX17_colours 224 = .ok (.invokestatic 149, 3) := by decide +kernel
theorem dr_cX17_colours_227 : decode cX17_colours 227 = .ok (.istore 7, 2) := by decide +kernel
theorem dr_cX17_colours_229 : decode cX17_colours 229 = .ok (.iload 7, 2) := by decide +kernel
theorem dr_cX17_colours_231 : decode cX17_colours 231 = .ok (.iload_n 1, 1) := by decide +kernel
theorem dr_cX17_colours_232 : decode cX17_colours 232 = .ok (.if_icmp .ge 15, 3) := by decide +kernel
theorem dr_cX17_colours_247 : decode cX17_colours 247 = .ok (.iinc 3 1, 3) := by decide +kernel
theorem dr_cX17_colours_250 : decode cX17_colours 250 = .ok (.goto (-106), 3) := by decide +kernel
theorem dr_cX17_colours_235 : decode cX17_colours 235 = .ok (.aload_n 0, 1) := by decide +kernel
theorem dr_cX17_colours_236 : decode cX17_colours 236 = .ok (.getfield 212, 3) := by decide +kernel
theorem wr_7_91 : (Jvm.Cond.fieldLink "SpillForgeModel" (212 : Nat) "SpillForgeModel" "colour" "[I") ∈ gw := gw_7 91 rfl rfl
theorem dr_cX17_colours_239 : decode cX17_colours 239 = .ok (.iload 4, 2) := by decide +kernel
theorem dr_cX17_colours_241 : decode cX17_colours 241 = .ok (.iload 7, 2) := by decide +kernel
theorem dr_cX17_colours_243 : decode cX17_colours 243 = .ok (.iastore, 1) := by decide +kernel
theorem dr_cX17_colours_244 : decode cX17_colours 244 = .ok (.goto 6, 3) := by decide +kernel
theorem dr_cX17_colours_173 : decode cX17_colours 173 = .ok (.aload_n 0, 1) := by decide +kernel
theorem dr_cX17_colours_174 : decode cX17_colours 174 = .ok (.getfield 212, 3) := by decide +kernel
theorem dr_cX17_colours_177 : decode cX17_colours 177 = .ok (.iload 7, 2) := by decide +kernel
theorem dr_cX17_colours_179 : decode cX17_colours 179 = .ok (.iaload, 1) := by decide +kernel
theorem dr_cX17_colours_180 : decode cX17_colours 180 = .ok (.ifCond .lt 32, 3) := by decide +kernel
theorem dr_cX17_colours_212 : decode cX17_colours 212 = .ok (.iinc 7 1, 3) := by decide +kernel
theorem dr_cX17_colours_215 : decode cX17_colours 215 = .ok (.goto (-50), 3) := by decide +kernel
theorem dr_cX17_colours_183 : decode cX17_colours 183 = .ok (.aload_n 0, 1) := by decide +kernel
theorem dr_cX17_colours_184 : decode cX17_colours 184 = .ok (.getfield 135, 3) := by decide +kernel
theorem dr_cX17_colours_187 : decode cX17_colours 187 = .ok (.iload 4, 2) := by decide +kernel
theorem dr_cX17_colours_189 : decode cX17_colours 189 = .ok (.aaload, 1) := by decide +kernel
theorem dr_cX17_colours_190 : decode cX17_colours 190 = .ok (.iload 7, 2) := by decide +kernel
theorem dr_cX17_colours_192 : decode cX17_colours 192 = .ok (.invokestatic 145, 3) := by decide +kernel
theorem dr_cX17_colours_195 : decode cX17_colours 195 = .ok (.ifCond .eq 17, 3) := by decide +kernel
theorem dr_cX17_colours_198 : decode cX17_colours 198 = .ok (.lload 5, 2) := by decide +kernel
theorem dr_cX17_colours_200 : decode cX17_colours 200 = .ok (.lconst 1, 1) := by decide +kernel
theorem dr_cX17_colours_201 : decode cX17_colours 201 = .ok (.aload_n 0, 1) := by decide +kernel
theorem dr_cX17_colours_202 : decode cX17_colours 202 = .ok (.getfield 212, 3) := by decide +kernel
theorem dr_cX17_colours_205 : decode cX17_colours 205 = .ok (.iload 7, 2) := by decide +kernel
theorem dr_cX17_colours_207 : decode cX17_colours 207 = .ok (.iaload, 1) := by decide +kernel
theorem dr_cX17_colours_208 : decode cX17_colours 208 = .ok (.lshl, 1) := by decide +kernel
theorem dr_cX17_colours_209 : decode cX17_colours 209 = .ok (.lor, 1) := by decide +kernel
theorem dr_cX17_colours_210 : decode cX17_colours 210 = .ok (.lstore 5, 2) := by decide +kernel
theorem dr_cX17_colours_74 : decode cX17_colours 74 = .ok (.aload_n 0, 1) := by decide +kernel
theorem dr_cX17_colours_75 : decode cX17_colours 75 = .ok (.getfield 218, 3) := by decide +kernel
theorem dr_cX17_colours_78 : decode cX17_colours 78 = .ok (.iload_n 2, 1) := by decide +kernel
theorem dr_cX17_colours_79 : decode cX17_colours 79 = .ok (.iload_n 3, 1) := by decide +kernel
theorem dr_cX17_colours_80 : decode cX17_colours 80 = .ok (.iastore, 1) := by decide +kernel
theorem dr_cX17_colours_81 : decode cX17_colours 81 = .ok (.iinc 2 1, 3) := by decide +kernel
theorem dr_cX17_colours_84 : decode cX17_colours 84 = .ok (.aload_n 0, 1) := by decide +kernel
theorem dr_cX17_colours_85 : decode cX17_colours 85 = .ok (.getfield 206, 3) := by decide +kernel
theorem dr_cX17_colours_88 : decode cX17_colours 88 = .ok (.iload_n 3, 1) := by decide +kernel
theorem dr_cX17_colours_89 : decode cX17_colours 89 = .ok (.iconst 0, 1) := by decide +kernel
theorem dr_cX17_colours_90 : decode cX17_colours 90 = .ok (.bastore, 1) := by decide +kernel
theorem dr_cX17_colours_91 : decode cX17_colours 91 = .ok (.iconst 0, 1) := by decide +kernel
theorem dr_cX17_colours_92 : decode cX17_colours 92 = .ok (.istore 4, 2) := by decide +kernel
theorem dr_cX17_colours_94 : decode cX17_colours 94 = .ok (.iload 4, 2) := by decide +kernel
theorem dr_cX17_colours_96 : decode cX17_colours 96 = .ok (.sipush 2000, 3) := by decide +kernel
theorem dr_cX17_colours_99 : decode cX17_colours 99 = .ok (.if_icmp .ge 34, 3) := by decide +kernel
theorem dr_cX17_colours_133 : decode cX17_colours 133 = .ok (.aload_n 0, 1) := by decide +kernel
theorem dr_cX17_colours_134 : decode cX17_colours 134 = .ok (.iload_n 1, 1) := by decide +kernel
theorem dr_cX17_colours_135 : decode cX17_colours 135 = .ok (.invokevirtual 215, 3) := by decide +kernel
theorem dr_cX17_colours_138 : decode cX17_colours 138 = .ok (.istore_n 3, 1) := by decide +kernel
theorem dr_cX17_colours_139 : decode cX17_colours 139 = .ok (.goto (-69), 3) := by decide +kernel
theorem dr_cX17_colours_102 : decode cX17_colours 102 = .ok (.aload_n 0, 1) := by decide +kernel
theorem dr_cX17_colours_103 : decode cX17_colours 103 = .ok (.getfield 135, 3) := by decide +kernel
theorem dr_cX17_colours_106 : decode cX17_colours 106 = .ok (.iload_n 3, 1) := by decide +kernel
theorem dr_cX17_colours_107 : decode cX17_colours 107 = .ok (.aaload, 1) := by decide +kernel
theorem dr_cX17_colours_108 : decode cX17_colours 108 = .ok (.iload 4, 2) := by decide +kernel
theorem dr_cX17_colours_110 : decode cX17_colours 110 = .ok (.invokestatic 145, 3) := by decide +kernel
theorem dr_cX17_colours_113 : decode cX17_colours 113 = .ok (.ifCond .eq 14, 3) := by decide +kernel
theorem dr_cX17_colours_127 : decode cX17_colours 127 = .ok (.iinc 4 1, 3) := by decide +kernel
theorem dr_cX17_colours_130 : decode cX17_colours 130 = .ok (.goto (-36), 3) := by decide +kernel
theorem dr_cX17_colours_116 : decode cX17_colours 116 = .ok (.aload_n 0, 1) := by decide +kernel
theorem dr_cX17_colours_117 : decode cX17_colours 117 = .ok (.getfield 209, 3) := by decide +kernel
theorem dr_cX17_colours_120 : decode cX17_colours 120 = .ok (.iload 4, 2) := by decide +kernel
theorem dr_cX17_colours_122 : decode cX17_colours 122 = .ok (.dup2, 1) := by decide +kernel
theorem dr_cX17_colours_123 : decode cX17_colours 123 = .ok (.iaload, 1) := by decide +kernel
theorem dr_cX17_colours_124 : decode cX17_colours 124 = .ok (.iconst 1, 1) := by decide +kernel
theorem dr_cX17_colours_125 : decode cX17_colours 125 = .ok (.isub, 1) := by decide +kernel
theorem dr_cX17_colours_126 : decode cX17_colours 126 = .ok (.iastore, 1) := by decide +kernel
theorem dr_cX17_colours_9 : decode cX17_colours 9 = .ok (.aload_n 0, 1) := by decide +kernel
theorem dr_cX17_colours_10 : decode cX17_colours 10 = .ok (.getfield 206, 3) := by decide +kernel
theorem dr_cX17_colours_13 : decode cX17_colours 13 = .ok (.iload_n 2, 1) := by decide +kernel
theorem dr_cX17_colours_14 : decode cX17_colours 14 = .ok (.aload_n 0, 1) := by decide +kernel
theorem dr_cX17_colours_15 : decode cX17_colours 15 = .ok (.getfield 131, 3) := by decide +kernel
theorem dr_cX17_colours_18 : decode cX17_colours 18 = .ok (.iload_n 2, 1) := by decide +kernel
theorem dr_cX17_colours_19 : decode cX17_colours 19 = .ok (.baload, 1) := by decide +kernel
theorem dr_cX17_colours_20 : decode cX17_colours 20 = .ok (.bastore, 1) := by decide +kernel
theorem dr_cX17_colours_21 : decode cX17_colours 21 = .ok (.aload_n 0, 1) := by decide +kernel
theorem dr_cX17_colours_22 : decode cX17_colours 22 = .ok (.getfield 209, 3) := by decide +kernel
theorem dr_cX17_colours_25 : decode cX17_colours 25 = .ok (.iload_n 2, 1) := by decide +kernel
theorem dr_cX17_colours_26 : decode cX17_colours 26 = .ok (.aload_n 0, 1) := by decide +kernel
theorem dr_cX17_colours_27 : decode cX17_colours 27 = .ok (.getfield 131, 3) := by decide +kernel
theorem dr_cX17_colours_30 : decode cX17_colours 30 = .ok (.iload_n 2, 1) := by decide +kernel
theorem dr_cX17_colours_31 : decode cX17_colours 31 = .ok (.baload, 1) := by decide +kernel
theorem dr_cX17_colours_32 : decode cX17_colours 32 = .ok (.ifCond .eq 15, 3) := by decide +kernel
theorem dr_cX17_colours_47 : decode cX17_colours 47 = .ok (.iconst 0, 1) := by decide +kernel
theorem dr_cX17_colours_48 : decode cX17_colours 48 = .ok (.iastore, 1) := by decide +kernel
theorem dr_cX17_colours_49 : decode cX17_colours 49 = .ok (.aload_n 0, 1) := by decide +kernel
theorem dr_cX17_colours_50 : decode cX17_colours 50 = .ok (.getfield 212, 3) := by decide +kernel
theorem dr_cX17_colours_53 : decode cX17_colours 53 = .ok (.iload_n 2, 1) := by decide +kernel
theorem dr_cX17_colours_54 : decode cX17_colours 54 = .ok (.iconst (-1), 1) := by decide +kernel
theorem dr_cX17_colours_55 : decode cX17_colours 55 = .ok (.iastore, 1) := by decide +kernel
theorem dr_cX17_colours_56 : decode cX17_colours 56 = .ok (.iinc 2 1, 3) := by decide +kernel
theorem dr_cX17_colours_59 : decode cX17_colours 59 = .ok (.goto (-57), 3) := by decide +kernel
theorem dr_cX17_colours_35 : decode cX17_colours 35 = .ok (.aload_n 0, 1) := by decide +kernel
theorem dr_cX17_colours_36 : decode cX17_colours 36 = .ok (.getfield 135, 3) := by decide +kernel
theorem dr_cX17_colours_39 : decode cX17_colours 39 = .ok (.iload_n 2, 1) := by decide +kernel
theorem dr_cX17_colours_40 : decode cX17_colours 40 = .ok (.aaload, 1) := by decide +kernel
theorem dr_cX17_colours_41 : decode cX17_colours 41 = .ok (.invokestatic 202, 3) := by decide +kernel
theorem dr_cX17_colours_44 : decode cX17_colours 44 = .ok (.goto 4, 3) := by decide +kernel
abbrev ky_335943_SpillForgeModel_colours : gKey := (cX17_colours, 8, "SpillForgeModel", (some FieldType.int), [], "colours", fun _ _ => True)
def pt_335943_SpillForgeModel_colours (D : va_G) (I : FieldType → ClassId) (γ el : Nat → Nat → Nat) (P335939 : List Nat) (F335940 : Nat → va_E) (q335941 : Nat) (p335942 : Int32) : Option Value → va_W → Nat → Nat → Prop := fun r w dc ds => ∃ (F344632 : Nat → va_E) (o344631 : Int32), r = some (.int o344631) ∧ w = va_pl P335939 F344632 ∧ RS D I P335939 F344632 γ el ∧ rStr γ [] F335940 F344632 ∧ dc ≤ 0 ∧ ds ≤ 0 ∧ gB o344631 0 2000 ∧ (gIp (o344631.toInt = 0) (∀ m : Nat, rSd (cB (F344632 (γ 9 3))) m → 0 ≤ (cB (F344632 (γ 9 17)) m).toInt)) ∧ (F344632 q335941 = F335940 q335941) ∧ (F344632 (γ 9 3) = F335940 (γ 9 3)) ∧ tr_RModel_colours D I γ el P335939 F335940 q335941 p335942 o344631 F344632
set_option maxRecDepth 100000 in
set_option maxHeartbeats 4000000 in
theorem ct_335943_SpillForgeModel_colours (l : Launch) (hl0 : l.stackTraces = false) (D : va_G) (I : FieldType → ClassId) (γ el : Nat → Nat → Nat) (P335939 : List Nat) (F335940 : Nat → va_E) (q335941 : Nat) (p335942 : Int32) (hT : RS D I P335939 F335940 γ el) (htq335941 : rKd γ q335941 10) (bp335942 : gB p335942 1 32) : CtA (gV D I) l yX17_colours cX17_colours 8 (some FieldType.int) 2 43 0 0 [.ref q335941, .int p335942] (va_pl P335939 F335940) (pt_335943_SpillForgeModel_colours D I γ el P335939 F335940 q335941 p335942) gNA := by
  refine CtA_of hl0 (by decide) (Nat.le_of_ble_eq_true rfl) ?_
  have hm335944 : q335941 ∈ P335939 := RS_m hT htq335941 (by decide)
  refine rk10_e (show rk_10 γ (F335940 q335941) from RS_o hT htq335941) (fun q335946 q335947 p335948 p335949 p335950 p335951 p335952 p335953 p335954 p335955 p335956 p335957 p335958 p335959 p335960 p335961 p335962 he335945 hB335989 ht335963 ht335964 ht335965 ht335966 ht335967 ht335968 ht335969 ht335970 ht335971 ht335972 ht335973 ht335974 ht335975 ht335976 ht335977 ht335978 ht335979 ht335980 ht335981 ht335982 ht335983 ht335984 ht335985 ht335986 hB335990 => ?_)
  have hm335991 : (γ 9 3) ∈ P335939 := RS_m hT ht335968 (by decide)
  obtain ⟨f335993, he335992, bf335993⟩ := show rk_14 I (F335940 (γ 9 3)) from RS_o hT ht335968
  have hm335994 : (γ 9 18) ∈ P335939 := RS_m hT ht335977 (by decide)
  obtain ⟨f335996, he335995, bf335996⟩ := show rk_15 I (F335940 (γ 9 18)) from RS_o hT ht335977
  have hm335997 : (γ 9 15) ∈ P335939 := RS_m hT ht335974 (by decide)
  obtain ⟨f335999, he335998, bf335999⟩ := show rk_18 I (F335940 (γ 9 15)) from RS_o hT ht335974
  have hm336000 : (γ 9 17) ∈ P335939 := RS_m hT ht335976 (by decide)
  obtain ⟨f336002, he336001, bf336002⟩ := show rk_20 I (F335940 (γ 9 17)) from RS_o hT ht335976
  refine G_iconst 0 dr_cX17_colours_0 (by decide +kernel) ?_
  refine G_istore_n (L' := [(2, .int 0), (0, .ref q335941), (1, .int p335942)]) dr_cX17_colours_1 (Nat.le_of_ble_eq_true rfl) rfl ?_
  have hlp2_343340 : ∀ (n2_343340 : Nat) (F343335 : Nat → va_E) (g343334 : Int32), gB g343334 0 2000 → RS D I P335939 F343335 γ el → rStr γ [] F335940 F343335 → (∀ m : Nat, (m : Int) < g343334.toInt → rSd (cB (F343335 (γ 9 3))) m → rSd (cB (F343335 (γ 9 18))) m) → (F343335 q335941 = F335940 q335941) → (F343335 (γ 9 3) = F335940 (γ 9 3)) → (∀ (k : Nat) (e1 : Nat → va_E), tl_RModel_colours_2 D I γ el P335939 F335940 q335941 F343335 g343334 k e1 → tl_RModel_colours_2 D I γ el P335939 F335940 q335941 F335940 (0 : Int32) k e1) → ((2001 : Int) - g343334.toInt).toNat < n2_343340 → G (gV D I) l (gRm 2 43 0 0) (gMA (gV D I) (pt_335943_SpillForgeModel_colours D I γ el P335939 F335940 q335941 p335942) gNA 0 0) ky_335943_SpillForgeModel_colours 2 [(2, .int g343334), (0, .ref q335941), (1, .int p335942)] [] (va_pl P335939 F343335) 0 0 := by
    intro n2_343340
    induction n2_343340 with
    | zero => intro F343335 g343334 bg343334 hT343336 hs343337 x343338 x343339 x343340 kt2_343341 hm2_343340; exact absurd hm2_343340 (Nat.not_lt_zero _)
    | succ n2_343340 ih2_343340 =>
      intro F343335 g343334 bg343334 hT343336 hs343337 x343338 x343339 x343340 kt2_343341 hm2_343340
      have hs343342 : rStr γ [] F335940 F343335 := fun b h0 hb hw => (hs343337 b h0 hb hw).trans ((rStr_rf (γ := γ) (W := []) (F := F335940)) b h0 hb hw).symm
      have hs343343 : rStr γ [] F335940 F343335 := rStr_tr (rStr_rf (γ := γ) (W := []) (F := F335940)) hs343342
      have he343344 : F343335 q335941 = .inr (22, [.ref (γ 9 0), .ref (γ 9 1), .ref (γ 9 2), .ref (γ 9 3), .ref (γ 9 4), .ref (γ 9 5), .ref (γ 9 6), .ref (γ 9 7), .ref (γ 9 8), .int p335948, .int p335949, .int p335950, .int p335951, .int p335952, .int p335953, .ref (γ 9 15), .ref (γ 9 16), .ref (γ 9 17), .ref (γ 9 18), .ref (γ 9 19), .ref (γ 9 20), .ref (γ 9 21), .ref (γ 9 22), .int p335954, .int p335955, .int p335956, .int p335957, .int p335958, .ref q335946, .ref (γ 9 29), .int p335959, .ref (γ 9 31), .int p335960, .int p335961, .int p335962, .ref q335947]) := x343339.trans he335945
      have hm343345 : q335941 ∈ P335939 := RS_m hT343336 htq335941 (by decide)
      have he343346 : F343335 (γ 9 3) = .inl (I .boolean, 2000, .inl f335993) := x343340.trans he335992
      have hm343347 : (γ 9 3) ∈ P335939 := RS_m hT343336 ht335968 (by decide)
      have hm343348 : (γ 9 18) ∈ P335939 := RS_m hT343336 ht335977 (by decide)
      obtain ⟨f343350, he343349, bf343350⟩ := show rk_15 I (F343335 (γ 9 18)) from RS_o hT343336 ht335977
      have hm343351 : (γ 9 15) ∈ P335939 := RS_m hT343336 ht335974 (by decide)
      obtain ⟨f343353, he343352, bf343353⟩ := show rk_18 I (F343335 (γ 9 15)) from RS_o hT343336 ht335974
      have hm343354 : (γ 9 17) ∈ P335939 := RS_m hT343336 ht335976 (by decide)
      obtain ⟨f343356, he343355, bf343356⟩ := show rk_20 I (F343335 (γ 9 17)) from RS_o hT343336 ht335976
      have cq343357 := x343338
      rw [cB_of he343346, cB_of he343349] at cq343357
      refine G_iload_n 0 dr_cX17_colours_2 rfl ?_
      refine G_sipush 2000 dr_cX17_colours_3 (by decide +kernel) ?_
      refine G_icmp_ge 62 dr_cX17_colours_6 (by decide +kernel) (fun hc343358 => ?_) (fun hc343358 => ?_)
      · have r343359 : 2000 ≤ g343334.toInt := gj_leL hc343358 (show Int32.toInt 2000 = 2000 by decide)
        have bg343334' : gB g343334 2000 2000 := ⟨by omega, by omega⟩
        have hx343360 : tl_RModel_colours_2 D I γ el P335939 F335940 q335941 F335940 (0 : Int32) 62 F343335 := kt2_343341 62 F343335 (fun R c1 c2 c3 => c1 F343335 g343334 bg343334 hT343336 hs343337 x343338 x343339 x343340 r343359)
        refine G_iconst 0 dr_cX17_colours_62 (by decide +kernel) ?_
        refine G_istore_n (L' := [(2, .int 0), (0, .ref q335941), (1, .int p335942)]) dr_cX17_colours_63 (Nat.le_of_ble_eq_true rfl) rfl ?_
        refine G_aload_n 1 dr_cX17_colours_64 rfl ?_
        refine G_iload_n 2 dr_cX17_colours_65 rfl ?_
        refine Gw_callV (As := [.int p335942]) (gV_ok D I) (ct_336739_SpillForgeModel_next l hl0 D I γ el P335939 F343335 q335941 p335942 hT343336 htq335941) dr_cX17_colours_66 ⟨wr_11_51, wr_1_14, wr_11_54, by decide, rfl, (Nat.le_of_ble_eq_true rfl), (Nat.le_of_ble_eq_true rfl)⟩ wr_11_53 wr_p_107 hm343345 he343344 rfl (show 0 + 0 ≤ 0 by first | omega | decide) (show 0 + 0 ≤ 0 by first | omega | decide) (Nat.le_of_ble_eq_true rfl) (fun r343364 w343365 dc343361 ds343362 hp343363 => ?_) (fun _ _ _ _ _ z => z.elim)
        obtain ⟨o343366, rfl, rfl, hdc, hds, bo343366, x343367, x343368, ht343369⟩ := hp343363
        change G _ _ _ _ _ _ _ (.int o343366 :: _) _ _ _
        refine G_widen (cs' := 0) (sl' := 0) (by omega) (by omega) ?_
        refine G_istore_n (L' := [(3, .int o343366), (2, .int 0), (0, .ref q335941), (1, .int p335942)]) dr_cX17_colours_69 (Nat.le_of_ble_eq_true rfl) rfl ?_
        have hlp70_343941 : ∀ (n70_343941 : Nat) (F343933 : Nat → va_E) (g343931 : Int32) (g343932 : Int32), gB g343931 (-1) 1999 → gB g343932 0 2000 → RS D I P335939 F343933 γ el → rStr γ [] F335940 F343933 → (∀ m : Nat, rSd (cB (F343933 (γ 9 3))) m → rSd (cB (F343933 (γ 9 18))) m ∨ ∃ i : Nat, (i : Int) < g343932.toInt ∧ (cB (F343933 (γ 9 15)) i).toInt = m) → (rcn (cB (F343933 (γ 9 18))) 2000 + (g343932.toInt : Int).toNat ≤ 2000) → (gIp (0 ≤ g343931.toInt) (rSd (cB (F343933 (γ 9 18))) (g343931.toInt : Int).toNat)) → (gIp (g343931.toInt < 0) (∀ m : Nat, ¬ rSd (cB (F343933 (γ 9 18))) m)) → (F343933 q335941 = F335940 q335941) → (F343933 (γ 9 3) = F335940 (γ 9 3)) → (∀ (k : Nat) (e1 : Int32) (e2 : Nat → va_E), tl_RModel_colours_70 D I γ el P335939 F335940 q335941 p335942 F343933 g343931 g343932 k e1 e2 → tl_RModel_colours_70 D I γ el P335939 F335940 q335941 p335942 F343335 o343366 (0 : Int32) k e1 e2) → (rcn (cB (F343933 (γ 9 18))) 2000) < n70_343941 → G (gV D I) l (gRm 2 43 0 0) (gMA (gV D I) (pt_335943_SpillForgeModel_colours D I γ el P335939 F335940 q335941 p335942) gNA 0 0) ky_335943_SpillForgeModel_colours 70 [(3, .int g343931), (2, .int g343932), (0, .ref q335941), (1, .int p335942)] [] (va_pl P335939 F343933) 0 0 := by
          intro n70_343941
          induction n70_343941 with
          | zero => intro F343933 g343931 g343932 bg343931 bg343932 hT343934 hs343935 x343936 x343937 x343938 x343939 x343940 x343941 kt70_343942 hm70_343941; exact absurd hm70_343941 (Nat.not_lt_zero _)
          | succ n70_343941 ih70_343941 =>
            intro F343933 g343931 g343932 bg343931 bg343932 hT343934 hs343935 x343936 x343937 x343938 x343939 x343940 x343941 kt70_343942 hm70_343941
            have hs343943 : rStr γ [] F343335 F343933 := fun b h0 hb hw => (hs343935 b h0 hb hw).trans (hs343337 b h0 hb hw).symm
            have hs343944 : rStr γ [] F335940 F343933 := rStr_tr hs343337 hs343943
            have he343945 : F343933 q335941 = .inr (22, [.ref (γ 9 0), .ref (γ 9 1), .ref (γ 9 2), .ref (γ 9 3), .ref (γ 9 4), .ref (γ 9 5), .ref (γ 9 6), .ref (γ 9 7), .ref (γ 9 8), .int p335948, .int p335949, .int p335950, .int p335951, .int p335952, .int p335953, .ref (γ 9 15), .ref (γ 9 16), .ref (γ 9 17), .ref (γ 9 18), .ref (γ 9 19), .ref (γ 9 20), .ref (γ 9 21), .ref (γ 9 22), .int p335954, .int p335955, .int p335956, .int p335957, .int p335958, .ref q335946, .ref (γ 9 29), .int p335959, .ref (γ 9 31), .int p335960, .int p335961, .int p335962, .ref q335947]) := x343940.trans he335945
            have hm343946 : q335941 ∈ P335939 := RS_m hT343934 htq335941 (by decide)
            have he343947 : F343933 (γ 9 3) = .inl (I .boolean, 2000, .inl f335993) := x343941.trans he335992
            have hm343948 : (γ 9 3) ∈ P335939 := RS_m hT343934 ht335968 (by decide)
            have hm343949 : (γ 9 18) ∈ P335939 := RS_m hT343934 ht335977 (by decide)
            obtain ⟨f343951, he343950, bf343951⟩ := show rk_15 I (F343933 (γ 9 18)) from RS_o hT343934 ht335977
            have hm343952 : (γ 9 15) ∈ P335939 := RS_m hT343934 ht335974 (by decide)
            obtain ⟨f343954, he343953, bf343954⟩ := show rk_18 I (F343933 (γ 9 15)) from RS_o hT343934 ht335974
            have hm343955 : (γ 9 17) ∈ P335939 := RS_m hT343934 ht335976 (by decide)
            obtain ⟨f343957, he343956, bf343957⟩ := show rk_20 I (F343933 (γ 9 17)) from RS_o hT343934 ht335976
            have cq343958 := x343936
            rw [cB_of he343947, cB_of he343950, cB_of he343953] at cq343958
            have cq343959 := x343937
            rw [cB_of he343950] at cq343959
            have cq343960 := x343938
            rw [cB_of he343950] at cq343960
            have cq343961 := x343939
            rw [cB_of he343950] at cq343961
            refine G_iload_n 0 dr_cX17_colours_70 rfl ?_
            refine G_if_lt 142 dr_cX17_colours_71 (by decide +kernel) (fun hc343962 => ?_) (fun hc343962 => ?_)
            · have r343963 : g343931.toInt < 0 := gj_lt hc343962 (show Int32.toInt 0 = 0 by decide)
              have bg343931' : gB g343931 (-1) (-1) := ⟨by omega, by omega⟩
              have hx343964 : tl_RModel_colours_70 D I γ el P335939 F335940 q335941 p335942 F343335 o343366 (0 : Int32) 142 g343932 F343933 := kt70_343942 142 g343932 F343933 (fun R c1 c2 => c1 F343933 g343931 g343932 bg343931 bg343932 hT343934 hs343935 x343936 x343937 x343938 x343939 x343940 x343941 r343963)
              refine G_iconst 0 dr_cX17_colours_142 (by decide +kernel) ?_
              refine G_istore_n (L' := [(3, .int 0), (2, .int g343932), (0, .ref q335941), (1, .int p335942)]) dr_cX17_colours_143 (Nat.le_of_ble_eq_true rfl) rfl ?_
              have hlp144_344138 : ∀ (n144_344138 : Nat) (F344132 : Nat → va_E) (g344130 : Int32) (g344131 : Int32), gB g344130 0 2000 → gB g344131 0 2000 → RS D I P335939 F344132 γ el → rStr γ [] F335940 F344132 → (gIp (g344130.toInt = 0) (∀ m : Nat, rSd (cB (F344132 (γ 9 3))) m → (∃ i : Nat, (i : Int) < g344131.toInt ∧ (cB (F344132 (γ 9 15)) i).toInt = m) ∨ 0 ≤ (cB (F344132 (γ 9 17)) m).toInt)) → (g344130.toInt + g344131.toInt ≤ 2000) → (F344132 q335941 = F335940 q335941) → (F344132 (γ 9 3) = F335940 (γ 9 3)) → (∀ (k : Nat) (e1 : Int32) (e2 : Nat → va_E), tl_RModel_colours_144 D I γ el P335939 F335940 q335941 p335942 F344132 g344130 g344131 k e1 e2 → tl_RModel_colours_144 D I γ el P335939 F335940 q335941 p335942 F343933 (0 : Int32) g343932 k e1 e2) → ((g344131.toInt : Int) - (-1)).toNat < n144_344138 → G (gV D I) l (gRm 2 43 0 0) (gMA (gV D I) (pt_335943_SpillForgeModel_colours D I γ el P335939 F335940 q335941 p335942) gNA 0 0) ky_335943_SpillForgeModel_colours 144 [(3, .int g344130), (2, .int g344131), (0, .ref q335941), (1, .int p335942)] [] (va_pl P335939 F344132) 0 0 := by
                intro n144_344138
                induction n144_344138 with
                | zero => intro F344132 g344130 g344131 bg344130 bg344131 hT344133 hs344134 x344135 x344136 x344137 x344138 kt144_344139 hm144_344138; exact absurd hm144_344138 (Nat.not_lt_zero _)
                | succ n144_344138 ih144_344138 =>
                  intro F344132 g344130 g344131 bg344130 bg344131 hT344133 hs344134 x344135 x344136 x344137 x344138 kt144_344139 hm144_344138
                  have hs344140 : rStr γ [] F343933 F344132 := fun b h0 hb hw => (hs344134 b h0 hb hw).trans (hs343935 b h0 hb hw).symm
                  have hs344141 : rStr γ [] F335940 F344132 := rStr_tr hs343935 hs344140
                  have he344142 : F344132 q335941 = .inr (22, [.ref (γ 9 0), .ref (γ 9 1), .ref (γ 9 2), .ref (γ 9 3), .ref (γ 9 4), .ref (γ 9 5), .ref (γ 9 6), .ref (γ 9 7), .ref (γ 9 8), .int p335948, .int p335949, .int p335950, .int p335951, .int p335952, .int p335953, .ref (γ 9 15), .ref (γ 9 16), .ref (γ 9 17), .ref (γ 9 18), .ref (γ 9 19), .ref (γ 9 20), .ref (γ 9 21), .ref (γ 9 22), .int p335954, .int p335955, .int p335956, .int p335957, .int p335958, .ref q335946, .ref (γ 9 29), .int p335959, .ref (γ 9 31), .int p335960, .int p335961, .int p335962, .ref q335947]) := x344137.trans he335945
                  have hm344143 : q335941 ∈ P335939 := RS_m hT344133 htq335941 (by decide)
                  have he344144 : F344132 (γ 9 3) = .inl (I .boolean, 2000, .inl f335993) := x344138.trans he335992
                  have hm344145 : (γ 9 3) ∈ P335939 := RS_m hT344133 ht335968 (by decide)
                  have hm344146 : (γ 9 18) ∈ P335939 := RS_m hT344133 ht335977 (by decide)
                  obtain ⟨f344148, he344147, bf344148⟩ := show rk_15 I (F344132 (γ 9 18)) from RS_o hT344133 ht335977
                  have hm344149 : (γ 9 15) ∈ P335939 := RS_m hT344133 ht335974 (by decide)
                  obtain ⟨f344151, he344150, bf344151⟩ := show rk_18 I (F344132 (γ 9 15)) from RS_o hT344133 ht335974
                  have hm344152 : (γ 9 17) ∈ P335939 := RS_m hT344133 ht335976 (by decide)
                  obtain ⟨f344154, he344153, bf344154⟩ := show rk_20 I (F344132 (γ 9 17)) from RS_o hT344133 ht335976
                  have cq344155 := x344135
                  rw [cB_of he344144, cB_of he344150, cB_of he344153] at cq344155
                  refine G_iload_n 1 dr_cX17_colours_144 rfl ?_
                  refine G_if_le 253 dr_cX17_colours_145 (by decide +kernel) (fun hc344156 => ?_) (fun hc344156 => ?_)
                  · have r344157 : g344131.toInt ≤ 0 := gj_le hc344156 (show Int32.toInt 0 = 0 by decide)
                    have bg344131' : gB g344131 0 0 := ⟨by omega, by omega⟩
                    have hx344158 : tl_RModel_colours_144 D I γ el P335939 F335940 q335941 p335942 F343933 (0 : Int32) g343932 253 g344130 F344132 := kt144_344139 253 g344130 F344132 (fun R c1 c2 c3 => c1 F344132 g344130 g344131 bg344130 bg344131 hT344133 hs344134 x344135 x344136 x344137 x344138 r344157)
                    refine G_iload_n 0 dr_cX17_colours_253 rfl ?_
                    exact G_iretA dr_cX17_colours_254 rfl (Nat.le_of_ble_eq_true rfl) (Nat.le_of_ble_eq_true rfl) ⟨F344132, g344130, rfl, rfl, hT344133, hs344134, (Nat.le_of_ble_eq_true rfl), (Nat.le_of_ble_eq_true rfl), bg344130, (fun h0 m s => by rw [cB_of he344153]; rw [cB_of he344144] at s; exact (cq344155 h0 m s).resolve_left (fun ⟨i, hi, _⟩ => absurd hi (by omega))), x344137, x344138, (fun R c1 => c1 F343335 o343366 g343932 F343933 g344130 F344132 hx343360 bo343366 x343367 x343368 ht343369 hx343964 hx344158)⟩
                  · have r344159 : 0 < g344131.toInt := gj_nle hc344156 (show Int32.toInt 0 = 0 by decide)
                    have bg344131' : gB g344131 1 2000 := ⟨by omega, by omega⟩
                    obtain ⟨z344160, hz344160⟩ : ∃ z : Int32, z = g344131 + Int32.ofInt (-1) := ⟨_, rfl⟩
                    have ez344160 : z344160.toInt = g344131.toInt + (-1) := gI_inc hz344160 (by decide) bg344131' (by decide) (by decide)
                    have bz344160 : gB z344160 0 1999 := ⟨by omega, by omega⟩
                    refine G_iinc (L' := [(2, .int z344160), (3, .int g344130), (0, .ref q335941), (1, .int p335942)]) z344160 1 dr_cX17_colours_148 rfl hz344160.symm (Nat.le_of_ble_eq_true rfl) rfl ?_
                    refine G_aload_n 2 dr_cX17_colours_151 rfl ?_
                    have fq344161 : fR (F344132 q335941) 15 = (γ 9 15) := by rw [he344142]; rfl
                    refine Gp_get 15 hm344143 he344142 dr_cX17_colours_152 (gk_X17 D I) (Nat.le_of_ble_eq_true rfl) wr_7_89 rfl ?_
                    refine G_iload_n 0 dr_cX17_colours_155 rfl ?_
                    refine Gp_iald 0 hm344149 he344150 dr_cX17_colours_156 rfl (gB_in bz344160 (by decide) (by decide)) (G_nam fun z344162 hz344162 => ?_)
                    have bz344162 : gB z344162 0 1999 := by rw [hz344162]; exact bf344151 _
                    refine G_istore (L' := [(4, .int z344162), (2, .int z344160), (3, .int g344130), (0, .ref q335941), (1, .int p335942)]) dr_cX17_colours_157 (Nat.le_of_ble_eq_true rfl) rfl ?_
                    refine G_lconst 0 dr_cX17_colours_159 rfl ?_
                    refine G_lstore (L' := [(5, .long 0), (4, .int z344162), (2, .int z344160), (3, .int g344130), (0, .ref q335941), (1, .int p335942)]) dr_cX17_colours_160 (Nat.le_of_ble_eq_true rfl) rfl ?_
                    refine G_iconst 0 dr_cX17_colours_162 (by decide +kernel) ?_
                    refine G_istore (L' := [(7, .int 0), (5, .long 0), (4, .int z344162), (2, .int z344160), (3, .int g344130), (0, .ref q335941), (1, .int p335942)]) dr_cX17_colours_163 (Nat.le_of_ble_eq_true rfl) rfl ?_
                    have hlp165_344234 : ∀ (n165_344234 : Nat) (g344232 : Int32) (gl344233 : Int64), gB g344232 0 2000 → lb_Q gl344233 (32) → (∀ (k : Nat) (e1 : Int64), tl_RModel_colours_165 D I γ el F344132 q335941 z344162 g344232 gl344233 k e1 → tl_RModel_colours_165 D I γ el F344132 q335941 z344162 (0 : Int32) (0 : Int64) k e1) → ((2001 : Int) - g344232.toInt).toNat < n165_344234 → G (gV D I) l (gRm 2 43 0 0) (gMA (gV D I) (pt_335943_SpillForgeModel_colours D I γ el P335939 F335940 q335941 p335942) gNA 0 0) ky_335943_SpillForgeModel_colours 165 [(7, .int g344232), (5, .long gl344233), (4, .int z344162), (2, .int z344160), (3, .int g344130), (0, .ref q335941), (1, .int p335942)] [] (va_pl P335939 F344132) 0 0 := by
                      intro n165_344234
                      induction n165_344234 with
                      | zero => intro g344232 gl344233 bg344232 x344234 kt165_344235 hm165_344234; exact absurd hm165_344234 (Nat.not_lt_zero _)
                      | succ n165_344234 ih165_344234 =>
                        intro g344232 gl344233 bg344232 x344234 kt165_344235 hm165_344234
                        refine G_iload 0 dr_cX17_colours_165 rfl ?_
                        refine G_sipush 2000 dr_cX17_colours_167 (by decide +kernel) ?_
                        refine G_icmp_ge 218 dr_cX17_colours_170 (by decide +kernel) (fun hc344236 => ?_) (fun hc344236 => ?_)
                        · have r344237 : 2000 ≤ g344232.toInt := gj_leL hc344236 (show Int32.toInt 2000 = 2000 by decide)
                          have bg344232' : gB g344232 2000 2000 := ⟨by omega, by omega⟩
                          have hx344238 : tl_RModel_colours_165 D I γ el F344132 q335941 z344162 (0 : Int32) (0 : Int64) 218 gl344233 := kt165_344235 218 gl344233 (fun R c1 c2 c3 c4 => c1 g344232 gl344233 bg344232 x344234 r344237)
                          refine G_lload 1 dr_cX17_colours_218 rfl ?_
                          refine G_ldc2 (-1) dr_cX17_colours_220 wr_10_188 ?_
                          refine G_lxor dr_cX17_colours_223 (G_namL fun u344239 hu344239 => ?_)
                          refine Gw_callS (As := [.long u344239]) (gV_ok D I) (nzc_Long_numberOfTrailingZeros l hl0 D I P335939 F344132 u344239) dr_cX17_colours_224 ⟨wr_11_1, wr_1_31, wr_11_3, by decide, rfl, (Nat.le_of_ble_eq_true rfl), (Nat.le_of_ble_eq_true rfl)⟩ wr_11_2 (show 0 + 0 ≤ 0 by first | omega | decide) (show 0 + 0 ≤ 0 by first | omega | decide) (Nat.le_of_ble_eq_true rfl) (fun r344243 w344244 dc344240 ds344241 hp344242 => ?_) (fun _ _ _ _ _ z => z.elim)
                          obtain ⟨o344246, rfl, rfl, hdc, hds, hO344245⟩ := hp344242
                          have hO344245 := hO344245 (nz_x hu344239 x344234)
                          have bo344246 : gB o344246 0 63 := ⟨hO344245.1, hO344245.2.1⟩
                          change G _ _ _ _ _ _ _ (.int o344246 :: _) _ _ _
                          refine G_widen (cs' := 0) (sl' := 0) (by omega) (by omega) ?_
                          refine G_istore (L' := [(7, .int o344246), (5, .long gl344233), (4, .int z344162), (2, .int z344160), (3, .int g344130), (0, .ref q335941), (1, .int p335942)]) dr_cX17_colours_227 (Nat.le_of_ble_eq_true rfl) rfl ?_
                          refine G_iload 0 dr_cX17_colours_229 rfl ?_
                          refine G_iload_n 6 dr_cX17_colours_231 rfl ?_
                          refine G_icmp_ge 247 dr_cX17_colours_232 (by decide +kernel) (fun hc344247 => ?_) (fun hc344247 => ?_)
                          · have r344248 : p335942.toInt ≤ o344246.toInt := gC_le hc344247
                            have bo344246' : gB o344246 1 63 := ⟨by omega, by omega⟩
                            have bg344130' : gB g344130 0 1999 := ⟨by omega, by omega⟩
                            obtain ⟨z344249, hz344249⟩ : ∃ z : Int32, z = g344130 + Int32.ofInt 1 := ⟨_, rfl⟩
                            have ez344249 : z344249.toInt = g344130.toInt + 1 := gI_inc hz344249 (by decide) bg344130' (by decide) (by decide)
                            have bz344249 : gB z344249 1 2000 := ⟨by omega, by omega⟩
                            refine G_iinc (L' := [(3, .int z344249), (7, .int o344246), (5, .long gl344233), (4, .int z344162), (2, .int z344160), (0, .ref q335941), (1, .int p335942)]) z344249 4 dr_cX17_colours_247 rfl hz344249.symm (Nat.le_of_ble_eq_true rfl) rfl ?_
                            refine G_goto 144 dr_cX17_colours_250 (by decide +kernel) ?_
                            refine G_lv (L' := [(3, .int z344249), (2, .int z344160), (0, .ref q335941), (1, .int p335942)]) [0, 4, 5, 6] rfl ?_
                            exact ih144_344138 F344132 z344249 z344160 (gB_w bz344249 (by decide) (by decide)) (gB_w bz344160 (by decide) (by decide)) hT344133 hs344134 (fun h0 => absurd h0 (by omega)) (by omega) x344137 x344138 (fun k e1 e2 ht => kt144_344139 k e1 e2 (fun R c1 c2 c3 => c2 F344132 g344130 g344131 z344160 f344151 z344162 gl344233 u344239 o344246 z344249 k e1 e2 bg344130 bg344131 hT344133 hs344134 x344135 x344136 x344137 x344138 r344159 ez344160 fq344161 he344150 hz344162 bz344162 hx344238 hu344239 hO344245 r344248 ez344249 (ht R c1 c2 c3))) (mz_dn ez344160 (Int.le_trans (by decide) bg344131'.1) hm144_344138)
                          · have r344250 : o344246.toInt < p335942.toInt := gC_nle hc344247
                            have bo344246' : gB o344246 0 31 := ⟨by omega, by omega⟩
                            refine G_aload_n 5 dr_cX17_colours_235 rfl ?_
                            have fq344251 : fR (F344132 q335941) 17 = (γ 9 17) := by rw [he344142]; rfl
                            refine Gp_get 17 hm344143 he344142 dr_cX17_colours_236 (gk_X17 D I) (Nat.le_of_ble_eq_true rfl) wr_7_91 rfl ?_
                            refine G_iload 2 dr_cX17_colours_239 rfl ?_
                            refine G_iload 0 dr_cX17_colours_241 rfl ?_
                            refine Gp_iast 0 hm344152 he344153 dr_cX17_colours_243 rfl (gB_in bz344162 (by decide) (by decide)) (fun F344252 e344253 n344254 => ?_)
                            obtain ⟨f344255, hf344255⟩ : ∃ z, z = upd f344154 z344162.toNatClampNeg o344246 := ⟨_, rfl⟩
                            rw [← hf344255] at e344253
                            have he344256 : F344252 q335941 = .inr (22, [.ref (γ 9 0), .ref (γ 9 1), .ref (γ 9 2), .ref (γ 9 3), .ref (γ 9 4), .ref (γ 9 5), .ref (γ 9 6), .ref (γ 9 7), .ref (γ 9 8), .int p335948, .int p335949, .int p335950, .int p335951, .int p335952, .int p335953, .ref (γ 9 15), .ref (γ 9 16), .ref (γ 9 17), .ref (γ 9 18), .ref (γ 9 19), .ref (γ 9 20), .ref (γ 9 21), .ref (γ 9 22), .int p335954, .int p335955, .int p335956, .int p335957, .int p335958, .ref q335946, .ref (γ 9 29), .int p335959, .ref (γ 9 31), .int p335960, .int p335961, .int p335962, .ref q335947]) := (n344254 q335941 (rn_oa he344142 he344153)).trans he344142
                            have he344257 : F344252 (γ 9 3) = .inl (I .boolean, 2000, .inl f335993) := (n344254 (γ 9 3) (rn_ty ht335968 ht335976 (by decide))).trans he344144
                            have he344258 : F344252 (γ 9 18) = .inl (I .boolean, 2000, .inl f344148) := (n344254 (γ 9 18) (rn_ty ht335977 ht335976 (by decide))).trans he344147
                            have he344259 : F344252 (γ 9 15) = .inl (I .int, 2000, .inl f344151) := (n344254 (γ 9 15) (rn_ty ht335974 ht335976 (by decide))).trans he344150
                            have he344260 : F344252 (γ 9 17) = .inl (I .int, 2000, .inl f344255) := e344253
                            have hs344261 : rStr γ [] F335940 F344252 := rStr_put hs344134 n344254 ht335976 (by decide)
                            have kp344262 : F344252 q335941 = F335940 q335941 := (n344254 q335941 (rn_ty htq335941 ht335976 (by decide))).trans x344137
                            have kp344263 : F344252 (γ 9 3) = F335940 (γ 9 3) := (n344254 (γ 9 3) (rn_ty ht335968 ht335976 (by decide))).trans x344138
                            have bf344255 : gF f344255 (-1) 31 := gF_upd hf344255 bf344154 (gB_w bo344246' (by decide) (by decide))
                            refine G_goto 250 dr_cX17_colours_244 (by decide +kernel) ?_
                            refine G_goto 144 dr_cX17_colours_250 (by decide +kernel) ?_
                            have hT344264 : RS D I P335939 F344252 γ el := RS_set hT344133 n344254 ht335976 (by decide) ⟨f344255, he344260, bf344255⟩
                            refine G_lv (L' := [(3, .int g344130), (2, .int z344160), (0, .ref q335941), (1, .int p335942)]) [4, 3, 5, 6] rfl ?_
                            exact ih144_344138 F344252 g344130 z344160 bg344130 (gB_w bz344160 (by decide) (by decide)) hT344264 hs344261 (by rw [cB_of he344257, cB_of he344259, cB_of he344260]; exact fun h0 => co_u hz344162 hf344255 (by omega) (by omega) (by omega) (cq344155 h0)) (by omega) kp344262 kp344263 (fun k e1 e2 ht => kt144_344139 k e1 e2 (fun R c1 c2 c3 => c3 F344132 g344130 g344131 z344160 f344151 z344162 gl344233 u344239 o344246 f344154 f344255 F344252 k e1 e2 bg344130 bg344131 hT344133 hs344134 x344135 x344136 x344137 x344138 r344159 ez344160 fq344161 he344150 hz344162 bz344162 hx344238 hu344239 hO344245 r344250 fq344251 he344153 hf344255 n344254 he344260 (ht R c1 c2 c3))) (mz_dn ez344160 (Int.le_trans (by decide) bg344131'.1) hm144_344138)
                        · have r344265 : g344232.toInt < 2000 := gj_nleL hc344236 (show Int32.toInt 2000 = 2000 by decide)
                          have bg344232' : gB g344232 0 1999 := ⟨by omega, by omega⟩
                          refine G_aload_n 5 dr_cX17_colours_173 rfl ?_
                          have fq344266 : fR (F344132 q335941) 17 = (γ 9 17) := by rw [he344142]; rfl
                          refine Gp_get 17 hm344143 he344142 dr_cX17_colours_174 (gk_X17 D I) (Nat.le_of_ble_eq_true rfl) wr_7_91 rfl ?_
                          refine G_iload 0 dr_cX17_colours_177 rfl ?_
                          refine Gp_iald 0 hm344152 he344153 dr_cX17_colours_179 rfl (gB_in bg344232' (by decide) (by decide)) (G_nam fun z344267 hz344267 => ?_)
                          have bz344267 : gB z344267 (-1) 31 := by rw [hz344267]; exact bf344154 _
                          refine G_if_lt 212 dr_cX17_colours_180 (by decide +kernel) (fun hc344268 => ?_) (fun hc344268 => ?_)
                          · have r344269 : z344267.toInt < 0 := gj_lt hc344268 (show Int32.toInt 0 = 0 by decide)
                            have bz344267' : gB z344267 (-1) (-1) := ⟨by omega, by omega⟩
                            obtain ⟨z344270, hz344270⟩ : ∃ z : Int32, z = g344232 + Int32.ofInt 1 := ⟨_, rfl⟩
                            have ez344270 : z344270.toInt = g344232.toInt + 1 := gI_inc hz344270 (by decide) bg344232' (by decide) (by decide)
                            have bz344270 : gB z344270 1 2000 := ⟨by omega, by omega⟩
                            refine G_iinc (L' := [(7, .int z344270), (5, .long gl344233), (4, .int z344162), (2, .int z344160), (3, .int g344130), (0, .ref q335941), (1, .int p335942)]) z344270 0 dr_cX17_colours_212 rfl hz344270.symm (Nat.le_of_ble_eq_true rfl) rfl ?_
                            refine G_goto 165 dr_cX17_colours_215 (by decide +kernel) ?_
                            exact ih165_344234 z344270 gl344233 (gB_w bz344270 (by decide) (by decide)) x344234 (fun k e1 ht => kt165_344235 k e1 (fun R c1 c2 c3 c4 => c2 g344232 gl344233 f344154 z344267 z344270 k e1 bg344232 x344234 r344265 fq344266 he344153 hz344267 bz344267 r344269 ez344270 (ht R c1 c2 c3 c4))) (mz_up ez344270 (Int.le_trans bg344232'.2 (by decide)) hm165_344234)
                          · have r344271 : 0 ≤ z344267.toInt := gj_nlt hc344268 (show Int32.toInt 0 = 0 by decide)
                            have bz344267' : gB z344267 0 31 := ⟨by omega, by omega⟩
                            refine G_aload_n 5 dr_cX17_colours_183 rfl ?_
                            have fq344272 : fR (F344132 q335941) 1 = (γ 9 1) := by rw [he344142]; rfl
                            refine Gp_get 1 hm344143 he344142 dr_cX17_colours_184 (gk_X17 D I) (Nat.le_of_ble_eq_true rfl) wr_7_75 rfl ?_
                            refine G_iload 2 dr_cX17_colours_187 rfl ?_
                            have hm344273 : (γ 9 1) ∈ P335939 := RS_m hT344133 ht335966 (by decide)
                            obtain ⟨f344275, he344274, hg344276⟩ := show rk_13 I γ (F344132 (γ 9 1)) from RS_o hT344133 ht335966
                            obtain ⟨q344277, hx344279⟩ : ∃ x, x = γ 11 z344162.toInt.toNat := ⟨_, rfl⟩
                            have ht344278 : rKd γ q344277 36 := by rw [hx344279]; exact (hg344276 _ (show z344162.toInt.toNat < 2000 by omega)).2.1
                            refine Gp_aald 5 hm344273 he344274 dr_cX17_colours_189 rfl rfl (gB_in bz344162 (by decide) (by decide)) ?_
                            rw [show f344275 z344162.toNatClampNeg = some q344277 from (hg344276 _ (show z344162.toInt.toNat < 2000 by omega)).1.trans (by rw [hx344279])]
                            change G _ _ _ _ _ _ _ (.ref q344277 :: _) _ _ _
                            refine G_iload 0 dr_cX17_colours_190 rfl ?_
                            have hm344280 : q344277 ∈ P335939 := RS_m hT344133 ht344278 (by decide)
                            obtain ⟨f344282, he344281, wf344282⟩ := show rk_36 I (F344132 q344277) from RS_o hT344133 ht344278
                            refine Gw_callS (As := [.ref q344277, .int g344232]) (gV_ok D I) (cp_1845_SpillForgeModel_has l hl0 D I P335939 F344132 q344277 g344232 f344282 hm344280 he344281 (gB_w bg344232' (by decide) (by decide))) dr_cX17_colours_192 ⟨wr_10_203, wr_1_14, wr_10_205, by decide, rfl, (Nat.le_of_ble_eq_true rfl), (Nat.le_of_ble_eq_true rfl)⟩ wr_10_204 (show 0 + 0 ≤ 0 by first | omega | decide) (show 0 + 0 ≤ 0 by first | omega | decide) (Nat.le_of_ble_eq_true rfl) (fun r344286 w344287 dc344283 ds344284 hp344285 => ?_) (fun _ _ _ _ _ z => z.elim)
                            rcases hp344285 with ⟨z344288, z344289, rfl, rfl, hdc, hds, r344290, r344291, r344292, r344293, r344294⟩ | ⟨z344295, z344296, rfl, rfl, hdc, hds, r344297, r344298, r344299, r344300, r344301⟩
                            · change G _ _ _ _ _ _ _ (.int 0 :: _) _ _ _
                              refine G_widen (cs' := 0) (sl' := 0) (by omega) (by omega) ?_
                              refine G_if_eq 212 dr_cX17_colours_195 (by decide +kernel) (fun _ => ?_) (fun hc => absurd hc (by decide))
                              obtain ⟨z344303, hz344303⟩ : ∃ z : Int32, z = g344232 + Int32.ofInt 1 := ⟨_, rfl⟩
                              have ez344303 : z344303.toInt = g344232.toInt + 1 := gI_inc hz344303 (by decide) bg344232' (by decide) (by decide)
                              have bz344303 : gB z344303 1 2000 := ⟨by omega, by omega⟩
                              refine G_iinc (L' := [(7, .int z344303), (5, .long gl344233), (4, .int z344162), (2, .int z344160), (3, .int g344130), (0, .ref q335941), (1, .int p335942)]) z344303 0 dr_cX17_colours_212 rfl hz344303.symm (Nat.le_of_ble_eq_true rfl) rfl ?_
                              refine G_goto 165 dr_cX17_colours_215 (by decide +kernel) ?_
                              exact ih165_344234 z344303 gl344233 (gB_w bz344303 (by decide) (by decide)) x344234 (fun k e1 ht => kt165_344235 k e1 (fun R c1 c2 c3 c4 => c3 g344232 gl344233 f344154 z344267 q344277 f344282 z344303 k e1 bg344232 x344234 r344265 fq344266 he344153 hz344267 bz344267 r344271 fq344272 hx344279 he344281 r344294 ez344303 (ht R c1 c2 c3 c4))) (mz_up ez344303 (Int.le_trans bg344232'.2 (by decide)) hm165_344234)
                            · change G _ _ _ _ _ _ _ (.int 1 :: _) _ _ _
                              refine G_widen (cs' := 0) (sl' := 0) (by omega) (by omega) ?_
                              refine G_if_eq 212 dr_cX17_colours_195 (by decide +kernel) (fun hc => absurd hc (by decide)) (fun _ => ?_)
                              refine G_lload 1 dr_cX17_colours_198 rfl ?_
                              refine G_lconst 1 dr_cX17_colours_200 rfl ?_
                              refine G_aload_n 5 dr_cX17_colours_201 rfl ?_
                              refine Gp_get 17 hm344143 he344142 dr_cX17_colours_202 (gk_X17 D I) (Nat.le_of_ble_eq_true rfl) wr_7_91 rfl ?_
                              refine G_iload 0 dr_cX17_colours_205 rfl ?_
                              refine Gp_iald 0 hm344152 he344153 dr_cX17_colours_207 rfl (gB_in bg344232' (by decide) (by decide)) (G_eqi (y := z344267) hz344267.symm ?_)
                              refine G_lshl dr_cX17_colours_208 (G_namL fun u344304 hu344304 => ?_)
                              have qu344304 : lb_Q u344304 (z344267.toInt % 64 + 1) := lb_Qshl hu344304 (by omega)
                              refine G_lor dr_cX17_colours_209 (G_namL fun u344305 hu344305 => ?_)
                              have qu344305 : lb_Q u344305 (32) := lb_Qor hu344305 x344234 (lb_Qw qu344304 (by omega))
                              refine G_lstore (L' := [(5, .long u344305), (7, .int g344232), (4, .int z344162), (2, .int z344160), (3, .int g344130), (0, .ref q335941), (1, .int p335942)]) dr_cX17_colours_210 (Nat.le_of_ble_eq_true rfl) rfl ?_
                              obtain ⟨z344306, hz344306⟩ : ∃ z : Int32, z = g344232 + Int32.ofInt 1 := ⟨_, rfl⟩
                              have ez344306 : z344306.toInt = g344232.toInt + 1 := gI_inc hz344306 (by decide) bg344232' (by decide) (by decide)
                              have bz344306 : gB z344306 1 2000 := ⟨by omega, by omega⟩
                              refine G_iinc (L' := [(7, .int z344306), (5, .long u344305), (4, .int z344162), (2, .int z344160), (3, .int g344130), (0, .ref q335941), (1, .int p335942)]) z344306 1 dr_cX17_colours_212 rfl hz344306.symm (Nat.le_of_ble_eq_true rfl) rfl ?_
                              refine G_goto 165 dr_cX17_colours_215 (by decide +kernel) ?_
                              exact ih165_344234 z344306 u344305 (gB_w bz344306 (by decide) (by decide)) qu344305 (fun k e1 ht => kt165_344235 k e1 (fun R c1 c2 c3 c4 => c4 g344232 gl344233 f344154 z344267 q344277 f344282 u344304 u344305 z344306 k e1 bg344232 x344234 r344265 fq344266 he344153 hz344267 bz344267 r344271 fq344272 hx344279 he344281 r344301 hu344304 hu344305 ez344306 (ht R c1 c2 c3 c4))) (mz_up ez344306 (Int.le_trans bg344232'.2 (by decide)) hm165_344234)
                    exact hlp165_344234 (((2001 : Int) - 0).toNat + 1) 0 0 (gB_w (gBl (show Int32.toInt 0 = 0 by decide)) (by decide) (by decide)) lb_Q0 (fun k e1 ht => ht) (Nat.lt_succ_self _)
              exact hlp144_344138 (((g343932.toInt : Int) - (-1)).toNat + 1) F343933 0 g343932 (gB_w (gBl (show Int32.toInt 0 = 0 by decide)) (by decide) (by decide)) bg343932 hT343934 hs343935 (by rw [cB_of he343947, cB_of he343953, cB_of he343956]; exact fun _ m s => Or.inl ((cq343958 m s).resolve_left (cq343961 (by omega) m))) (by have qa0 : Int32.toInt 0 = 0 := (by decide); omega) x343940 x343941 (fun k e1 e2 ht => ht) (Nat.lt_succ_self _)
            · have r344307 : 0 ≤ g343931.toInt := gj_nlt hc343962 (show Int32.toInt 0 = 0 by decide)
              have bg343931' : gB g343931 0 1999 := ⟨by omega, by omega⟩
              have r344308 := rcn_pos (cq343960 (by omega))
              have r344309 := cq343959
              have bg343932' : gB g343932 0 1999 := ⟨by omega, by omega⟩
              refine G_aload_n 2 dr_cX17_colours_74 rfl ?_
              have fq344310 : fR (F343933 q335941) 15 = (γ 9 15) := by rw [he343945]; rfl
              refine Gp_get 15 hm343946 he343945 dr_cX17_colours_75 (gk_X17 D I) (Nat.le_of_ble_eq_true rfl) wr_7_89 rfl ?_
              refine G_iload_n 1 dr_cX17_colours_78 rfl ?_
              refine G_iload_n 0 dr_cX17_colours_79 rfl ?_
              refine Gp_iast 0 hm343952 he343953 dr_cX17_colours_80 rfl (gB_in bg343932' (by decide) (by decide)) (fun F344311 e344312 n344313 => ?_)
              obtain ⟨f344314, hf344314⟩ : ∃ z, z = upd f343954 g343932.toNatClampNeg g343931 := ⟨_, rfl⟩
              rw [← hf344314] at e344312
              have he344315 : F344311 q335941 = .inr (22, [.ref (γ 9 0), .ref (γ 9 1), .ref (γ 9 2), .ref (γ 9 3), .ref (γ 9 4), .ref (γ 9 5), .ref (γ 9 6), .ref (γ 9 7), .ref (γ 9 8), .int p335948, .int p335949, .int p335950, .int p335951, .int p335952, .int p335953, .ref (γ 9 15), .ref (γ 9 16), .ref (γ 9 17), .ref (γ 9 18), .ref (γ 9 19), .ref (γ 9 20), .ref (γ 9 21), .ref (γ 9 22), .int p335954, .int p335955, .int p335956, .int p335957, .int p335958, .ref q335946, .ref (γ 9 29), .int p335959, .ref (γ 9 31), .int p335960, .int p335961, .int p335962, .ref q335947]) := (n344313 q335941 (rn_oa he343945 he343953)).trans he343945
              have he344316 : F344311 (γ 9 3) = .inl (I .boolean, 2000, .inl f335993) := (n344313 (γ 9 3) (rn_ty ht335968 ht335974 (by decide))).trans he343947
              have he344317 : F344311 (γ 9 18) = .inl (I .boolean, 2000, .inl f343951) := (n344313 (γ 9 18) (rn_ty ht335977 ht335974 (by decide))).trans he343950
              have he344318 : F344311 (γ 9 17) = .inl (I .int, 2000, .inl f343957) := (n344313 (γ 9 17) (rn_ty ht335976 ht335974 (by decide))).trans he343956
              have he344319 : F344311 (γ 9 15) = .inl (I .int, 2000, .inl f344314) := e344312
              have hs344320 : rStr γ [] F335940 F344311 := rStr_put hs343935 n344313 ht335974 (by decide)
              have kp344321 : F344311 q335941 = F335940 q335941 := (n344313 q335941 (rn_ty htq335941 ht335974 (by decide))).trans x343940
              have kp344322 : F344311 (γ 9 3) = F335940 (γ 9 3) := (n344313 (γ 9 3) (rn_ty ht335968 ht335974 (by decide))).trans x343941
              have bf344314 : gF f344314 0 1999 := gF_upd hf344314 bf343954 bg343931'
              obtain ⟨z344323, hz344323⟩ : ∃ z : Int32, z = g343932 + Int32.ofInt 1 := ⟨_, rfl⟩
              have ez344323 : z344323.toInt = g343932.toInt + 1 := gI_inc hz344323 (by decide) bg343932' (by decide) (by decide)
              have bz344323 : gB z344323 1 2000 := ⟨by omega, by omega⟩
              refine G_iinc (L' := [(2, .int z344323), (3, .int g343931), (0, .ref q335941), (1, .int p335942)]) z344323 1 dr_cX17_colours_81 rfl hz344323.symm (Nat.le_of_ble_eq_true rfl) rfl ?_
              refine G_aload_n 2 dr_cX17_colours_84 rfl ?_
              have fq344324 : fR (F344311 q335941) 18 = (γ 9 18) := by rw [he344315]; rfl
              refine Gp_get 18 hm343946 he344315 dr_cX17_colours_85 (gk_X17 D I) (Nat.le_of_ble_eq_true rfl) wr_7_92 rfl ?_
              refine G_iload_n 1 dr_cX17_colours_88 rfl ?_
              refine G_iconst 0 dr_cX17_colours_89 (by decide +kernel) ?_
              have hT344325 : RS D I P335939 F344311 γ el := RS_set hT343934 n344313 ht335974 (by decide) ⟨f344314, he344319, bf344314⟩
              refine Gp_zast 3 hm343949 he344317 dr_cX17_colours_90 rfl (gB_in bg343931' (by decide) (by decide)) (fun F344326 e344327 n344328 => ?_)
              obtain ⟨f344329, hf344329⟩ : ∃ z, z = upd f343951 g343931.toNatClampNeg (vp_nar .boolean 0) := ⟨_, rfl⟩
              rw [← hf344329] at e344327
              have he344330 : F344326 q335941 = .inr (22, [.ref (γ 9 0), .ref (γ 9 1), .ref (γ 9 2), .ref (γ 9 3), .ref (γ 9 4), .ref (γ 9 5), .ref (γ 9 6), .ref (γ 9 7), .ref (γ 9 8), .int p335948, .int p335949, .int p335950, .int p335951, .int p335952, .int p335953, .ref (γ 9 15), .ref (γ 9 16), .ref (γ 9 17), .ref (γ 9 18), .ref (γ 9 19), .ref (γ 9 20), .ref (γ 9 21), .ref (γ 9 22), .int p335954, .int p335955, .int p335956, .int p335957, .int p335958, .ref q335946, .ref (γ 9 29), .int p335959, .ref (γ 9 31), .int p335960, .int p335961, .int p335962, .ref q335947]) := (n344328 q335941 (rn_oa he344315 he344317)).trans he344315
              have he344331 : F344326 (γ 9 3) = .inl (I .boolean, 2000, .inl f335993) := (n344328 (γ 9 3) (rn_ty ht335968 ht335977 (by decide))).trans he344316
              have he344332 : F344326 (γ 9 15) = .inl (I .int, 2000, .inl f344314) := (n344328 (γ 9 15) (rn_ty ht335974 ht335977 (by decide))).trans he344319
              have he344333 : F344326 (γ 9 17) = .inl (I .int, 2000, .inl f343957) := (n344328 (γ 9 17) (rn_ty ht335976 ht335977 (by decide))).trans he344318
              have he344334 : F344326 (γ 9 18) = .inl (I .boolean, 2000, .inl f344329) := e344327
              have hs344335 : rStr γ [] F335940 F344326 := rStr_put hs344320 n344328 ht335977 (by decide)
              have kp344336 : F344326 q335941 = F335940 q335941 := (n344328 q335941 (rn_ty htq335941 ht335977 (by decide))).trans kp344321
              have kp344337 : F344326 (γ 9 3) = F335940 (γ 9 3) := (n344328 (γ 9 3) (rn_ty ht335968 ht335977 (by decide))).trans kp344322
              have bf344329 : gF f344329 0 1 := gF_upd hf344329 bf343951 (gB_w (gBl (show Int32.toInt 0 = 0 by decide)) (by decide) (by decide))
              have hT344339 : RS D I P335939 F344326 γ el := RS_set hT344325 n344328 ht335977 (by decide) ⟨f344329, he344334, bf344329⟩
              have td344338 := th_d hf344329 (by omega) (cq343960 (by omega))
              refine G_iconst 0 dr_cX17_colours_91 (by decide +kernel) ?_
              refine G_istore (L' := [(4, .int 0), (2, .int z344323), (3, .int g343931), (0, .ref q335941), (1, .int p335942)]) dr_cX17_colours_92 (Nat.le_of_ble_eq_true rfl) rfl ?_
              have hlp94_344432 : ∀ (n94_344432 : Nat) (F344425 : Nat → va_E) (g344424 : Int32), gB g344424 0 2000 → RS D I P335939 F344425 γ el → rStr γ [] F335940 F344425 → (∀ m : Nat, rSd (cB (F344425 (γ 9 3))) m → rSd (cB (F344425 (γ 9 18))) m ∨ ∃ i : Nat, (i : Int) < z344323.toInt ∧ (cB (F344425 (γ 9 15)) i).toInt = m) → (rcn (cB (F344425 (γ 9 18))) 2000 + (z344323.toInt : Int).toNat ≤ 2000) → (rcn (cB (F344425 (γ 9 18))) 2000 + 1 ≤ rcn (cB (F343933 (γ 9 18))) 2000) → (F344425 q335941 = F335940 q335941) → (F344425 (γ 9 3) = F335940 (γ 9 3)) → (∀ (k : Nat) (e1 : Nat → va_E), tl_RModel_colours_94 D I γ el P335939 F335940 z344323 F343933 q335941 g343931 F344425 g344424 k e1 → tl_RModel_colours_94 D I γ el P335939 F335940 z344323 F343933 q335941 g343931 F344326 (0 : Int32) k e1) → ((2001 : Int) - g344424.toInt).toNat < n94_344432 → G (gV D I) l (gRm 2 43 0 0) (gMA (gV D I) (pt_335943_SpillForgeModel_colours D I γ el P335939 F335940 q335941 p335942) gNA 0 0) ky_335943_SpillForgeModel_colours 94 [(4, .int g344424), (2, .int z344323), (3, .int g343931), (0, .ref q335941), (1, .int p335942)] [] (va_pl P335939 F344425) 0 0 := by
                intro n94_344432
                induction n94_344432 with
                | zero => intro F344425 g344424 bg344424 hT344426 hs344427 x344428 x344429 x344430 x344431 x344432 kt94_344433 hm94_344432; exact absurd hm94_344432 (Nat.not_lt_zero _)
                | succ n94_344432 ih94_344432 =>
                  intro F344425 g344424 bg344424 hT344426 hs344427 x344428 x344429 x344430 x344431 x344432 kt94_344433 hm94_344432
                  have hs344434 : rStr γ [] F344326 F344425 := fun b h0 hb hw => (hs344427 b h0 hb hw).trans (hs344335 b h0 hb hw).symm
                  have hs344435 : rStr γ [] F335940 F344425 := rStr_tr hs344335 hs344434
                  have he344436 : F344425 q335941 = .inr (22, [.ref (γ 9 0), .ref (γ 9 1), .ref (γ 9 2), .ref (γ 9 3), .ref (γ 9 4), .ref (γ 9 5), .ref (γ 9 6), .ref (γ 9 7), .ref (γ 9 8), .int p335948, .int p335949, .int p335950, .int p335951, .int p335952, .int p335953, .ref (γ 9 15), .ref (γ 9 16), .ref (γ 9 17), .ref (γ 9 18), .ref (γ 9 19), .ref (γ 9 20), .ref (γ 9 21), .ref (γ 9 22), .int p335954, .int p335955, .int p335956, .int p335957, .int p335958, .ref q335946, .ref (γ 9 29), .int p335959, .ref (γ 9 31), .int p335960, .int p335961, .int p335962, .ref q335947]) := x344431.trans he335945
                  have hm344437 : q335941 ∈ P335939 := RS_m hT344426 htq335941 (by decide)
                  have he344438 : F344425 (γ 9 3) = .inl (I .boolean, 2000, .inl f335993) := x344432.trans he335992
                  have hm344439 : (γ 9 3) ∈ P335939 := RS_m hT344426 ht335968 (by decide)
                  have hm344440 : (γ 9 18) ∈ P335939 := RS_m hT344426 ht335977 (by decide)
                  obtain ⟨f344442, he344441, bf344442⟩ := show rk_15 I (F344425 (γ 9 18)) from RS_o hT344426 ht335977
                  have hm344443 : (γ 9 15) ∈ P335939 := RS_m hT344426 ht335974 (by decide)
                  obtain ⟨f344445, he344444, bf344445⟩ := show rk_18 I (F344425 (γ 9 15)) from RS_o hT344426 ht335974
                  have hm344446 : (γ 9 17) ∈ P335939 := RS_m hT344426 ht335976 (by decide)
                  obtain ⟨f344448, he344447, bf344448⟩ := show rk_20 I (F344425 (γ 9 17)) from RS_o hT344426 ht335976
                  have cq344449 := x344428
                  rw [cB_of he344438, cB_of he344441, cB_of he344444] at cq344449
                  have cq344450 := x344429
                  rw [cB_of he344441] at cq344450
                  have cq344451 := x344430
                  rw [cB_of he344441] at cq344451
                  refine G_iload 0 dr_cX17_colours_94 rfl ?_
                  refine G_sipush 2000 dr_cX17_colours_96 (by decide +kernel) ?_
                  refine G_icmp_ge 133 dr_cX17_colours_99 (by decide +kernel) (fun hc344452 => ?_) (fun hc344452 => ?_)
                  · have r344453 : 2000 ≤ g344424.toInt := gj_leL hc344452 (show Int32.toInt 2000 = 2000 by decide)
                    have bg344424' : gB g344424 2000 2000 := ⟨by omega, by omega⟩
                    have hx344454 : tl_RModel_colours_94 D I γ el P335939 F335940 z344323 F343933 q335941 g343931 F344326 (0 : Int32) 133 F344425 := kt94_344433 133 F344425 (fun R c1 c2 c3 => c1 F344425 g344424 bg344424 hT344426 hs344427 x344428 x344429 x344430 x344431 x344432 r344453)
                    refine G_aload_n 3 dr_cX17_colours_133 rfl ?_
                    refine G_iload_n 4 dr_cX17_colours_134 rfl ?_
                    refine Gw_callV (As := [.int p335942]) (gV_ok D I) (ct_336739_SpillForgeModel_next l hl0 D I γ el P335939 F344425 q335941 p335942 hT344426 htq335941) dr_cX17_colours_135 ⟨wr_11_51, wr_1_14, wr_11_54, by decide, rfl, (Nat.le_of_ble_eq_true rfl), (Nat.le_of_ble_eq_true rfl)⟩ wr_11_53 wr_p_107 hm344437 he344436 rfl (show 0 + 0 ≤ 0 by first | omega | decide) (show 0 + 0 ≤ 0 by first | omega | decide) (Nat.le_of_ble_eq_true rfl) (fun r344458 w344459 dc344455 ds344456 hp344457 => ?_) (fun _ _ _ _ _ z => z.elim)
                    obtain ⟨o344460, rfl, rfl, hdc, hds, bo344460, x344461, x344462, ht344463⟩ := hp344457
                    change G _ _ _ _ _ _ _ (.int o344460 :: _) _ _ _
                    refine G_widen (cs' := 0) (sl' := 0) (by omega) (by omega) ?_
                    refine G_istore_n (L' := [(3, .int o344460), (4, .int g344424), (2, .int z344323), (0, .ref q335941), (1, .int p335942)]) dr_cX17_colours_138 (Nat.le_of_ble_eq_true rfl) rfl ?_
                    refine G_goto 70 dr_cX17_colours_139 (by decide +kernel) ?_
                    refine G_lv (L' := [(3, .int o344460), (2, .int z344323), (0, .ref q335941), (1, .int p335942)]) [0, 2, 3, 4] rfl ?_
                    exact ih70_343941 F344425 o344460 z344323 bo344460 (gB_w bz344323 (by decide) (by decide)) hT344426 hs344427 (by rw [cB_of he344438, cB_of he344441, cB_of he344444]; exact cq344449) (by rw [cB_of he344441]; exact cq344450) x344461 x344462 x344431 x344432 (fun k e1 e2 ht => kt70_343942 k e1 e2 (fun R c1 c2 => c2 F343933 g343931 g343932 f343954 f344314 F344311 z344323 f343951 f344329 F344326 F344425 o344460 k e1 e2 bg343931 bg343932 hT343934 hs343935 x343936 x343937 x343938 x343939 x343940 x343941 r344307 fq344310 he343953 hf344314 n344313 he344319 ez344323 fq344324 he344317 hf344329 n344328 he344334 hx344454 bo344460 x344461 x344462 ht344463 (ht R c1 c2))) (by have q := cq344451; rw [cB_of he343950] at q; rw [cB_of he344441]; rw [cB_of he343950] at hm70_343941; omega)
                  · have r344464 : g344424.toInt < 2000 := gj_nleL hc344452 (show Int32.toInt 2000 = 2000 by decide)
                    have bg344424' : gB g344424 0 1999 := ⟨by omega, by omega⟩
                    refine G_aload_n 3 dr_cX17_colours_102 rfl ?_
                    have fq344465 : fR (F344425 q335941) 1 = (γ 9 1) := by rw [he344436]; rfl
                    refine Gp_get 1 hm344437 he344436 dr_cX17_colours_103 (gk_X17 D I) (Nat.le_of_ble_eq_true rfl) wr_7_75 rfl ?_
                    refine G_iload_n 2 dr_cX17_colours_106 rfl ?_
                    have hm344466 : (γ 9 1) ∈ P335939 := RS_m hT344426 ht335966 (by decide)
                    obtain ⟨f344468, he344467, hg344469⟩ := show rk_13 I γ (F344425 (γ 9 1)) from RS_o hT344426 ht335966
                    obtain ⟨q344470, hx344472⟩ : ∃ x, x = γ 11 g343931.toInt.toNat := ⟨_, rfl⟩
                    have ht344471 : rKd γ q344470 36 := by rw [hx344472]; exact (hg344469 _ (show g343931.toInt.toNat < 2000 by omega)).2.1
                    refine Gp_aald 5 hm344466 he344467 dr_cX17_colours_107 rfl rfl (gB_in bg343931' (by decide) (by decide)) ?_
                    rw [show f344468 g343931.toNatClampNeg = some q344470 from (hg344469 _ (show g343931.toInt.toNat < 2000 by omega)).1.trans (by rw [hx344472])]
                    change G _ _ _ _ _ _ _ (.ref q344470 :: _) _ _ _
                    refine G_iload 0 dr_cX17_colours_108 rfl ?_
                    have hm344473 : q344470 ∈ P335939 := RS_m hT344426 ht344471 (by decide)
                    obtain ⟨f344475, he344474, wf344475⟩ := show rk_36 I (F344425 q344470) from RS_o hT344426 ht344471
                    refine Gw_callS (As := [.ref q344470, .int g344424]) (gV_ok D I) (cp_1845_SpillForgeModel_has l hl0 D I P335939 F344425 q344470 g344424 f344475 hm344473 he344474 (gB_w bg344424' (by decide) (by decide))) dr_cX17_colours_110 ⟨wr_10_203, wr_1_14, wr_10_205, by decide, rfl, (Nat.le_of_ble_eq_true rfl), (Nat.le_of_ble_eq_true rfl)⟩ wr_10_204 (show 0 + 0 ≤ 0 by first | omega | decide) (show 0 + 0 ≤ 0 by first | omega | decide) (Nat.le_of_ble_eq_true rfl) (fun r344479 w344480 dc344476 ds344477 hp344478 => ?_) (fun _ _ _ _ _ z => z.elim)
                    rcases hp344478 with ⟨z344481, z344482, rfl, rfl, hdc, hds, r344483, r344484, r344485, r344486, r344487⟩ | ⟨z344488, z344489, rfl, rfl, hdc, hds, r344490, r344491, r344492, r344493, r344494⟩
                    · change G _ _ _ _ _ _ _ (.int 0 :: _) _ _ _
                      refine G_widen (cs' := 0) (sl' := 0) (by omega) (by omega) ?_
                      refine G_if_eq 127 dr_cX17_colours_113 (by decide +kernel) (fun _ => ?_) (fun hc => absurd hc (by decide))
                      obtain ⟨z344496, hz344496⟩ : ∃ z : Int32, z = g344424 + Int32.ofInt 1 := ⟨_, rfl⟩
                      have ez344496 : z344496.toInt = g344424.toInt + 1 := gI_inc hz344496 (by decide) bg344424' (by decide) (by decide)
                      have bz344496 : gB z344496 1 2000 := ⟨by omega, by omega⟩
                      refine G_iinc (L' := [(4, .int z344496), (2, .int z344323), (3, .int g343931), (0, .ref q335941), (1, .int p335942)]) z344496 0 dr_cX17_colours_127 rfl hz344496.symm (Nat.le_of_ble_eq_true rfl) rfl ?_
                      refine G_goto 94 dr_cX17_colours_130 (by decide +kernel) ?_
                      exact ih94_344432 F344425 z344496 (gB_w bz344496 (by decide) (by decide)) hT344426 hs344427 (by rw [cB_of he344438, cB_of he344441, cB_of he344444]; exact cq344449) (by rw [cB_of he344441]; exact cq344450) (by rw [cB_of he344441]; exact cq344451) x344431 x344432 (fun k e1 ht => kt94_344433 k e1 (fun R c1 c2 c3 => c2 F344425 g344424 q344470 f344475 z344496 k e1 bg344424 hT344426 hs344427 x344428 x344429 x344430 x344431 x344432 r344464 fq344465 hx344472 he344474 r344487 ez344496 (ht R c1 c2 c3))) (mz_up ez344496 (Int.le_trans bg344424'.2 (by decide)) hm94_344432)
                    · change G _ _ _ _ _ _ _ (.int 1 :: _) _ _ _
                      refine G_widen (cs' := 0) (sl' := 0) (by omega) (by omega) ?_
                      refine G_if_eq 127 dr_cX17_colours_113 (by decide +kernel) (fun hc => absurd hc (by decide)) (fun _ => ?_)
                      refine G_aload_n 3 dr_cX17_colours_116 rfl ?_
                      have fq344497 : fR (F344425 q335941) 16 = (γ 9 16) := by rw [he344436]; rfl
                      refine Gp_get 16 hm344437 he344436 dr_cX17_colours_117 (gk_X17 D I) (Nat.le_of_ble_eq_true rfl) wr_7_90 rfl ?_
                      refine G_iload 0 dr_cX17_colours_120 rfl ?_
                      refine G_dup2_11 dr_cX17_colours_122 rfl rfl ?_
                      have hm344498 : (γ 9 16) ∈ P335939 := RS_m hT344426 ht335975 (by decide)
                      obtain ⟨f344500, he344499⟩ := show rk_19 I (F344425 (γ 9 16)) from RS_o hT344426 ht335975
                      refine Gp_iald 0 hm344498 he344499 dr_cX17_colours_123 rfl (gB_in bg344424' (by decide) (by decide)) (G_nam fun z344501 hz344501 => ?_)
                      have bz344501 : gB z344501 (-2147483648) 2147483647 := gB_any z344501
                      refine G_iconst 1 dr_cX17_colours_124 (by decide +kernel) ?_
                      refine G_isub dr_cX17_colours_125 (G_nam fun z344502 hz344502 => ?_)
                      have bz344502 : gB z344502 (-2147483648) 2147483647 := gB_any z344502
                      refine Gp_iast 0 hm344498 he344499 dr_cX17_colours_126 rfl (gB_in bg344424' (by decide) (by decide)) (fun F344503 e344504 n344505 => ?_)
                      obtain ⟨f344506, hf344506⟩ : ∃ z, z = upd f344500 g344424.toNatClampNeg z344502 := ⟨_, rfl⟩
                      rw [← hf344506] at e344504
                      have he344507 : F344503 q335941 = .inr (22, [.ref (γ 9 0), .ref (γ 9 1), .ref (γ 9 2), .ref (γ 9 3), .ref (γ 9 4), .ref (γ 9 5), .ref (γ 9 6), .ref (γ 9 7), .ref (γ 9 8), .int p335948, .int p335949, .int p335950, .int p335951, .int p335952, .int p335953, .ref (γ 9 15), .ref (γ 9 16), .ref (γ 9 17), .ref (γ 9 18), .ref (γ 9 19), .ref (γ 9 20), .ref (γ 9 21), .ref (γ 9 22), .int p335954, .int p335955, .int p335956, .int p335957, .int p335958, .ref q335946, .ref (γ 9 29), .int p335959, .ref (γ 9 31), .int p335960, .int p335961, .int p335962, .ref q335947]) := (n344505 q335941 (rn_oa he344436 he344499)).trans he344436
                      have he344508 : F344503 (γ 9 3) = .inl (I .boolean, 2000, .inl f335993) := (n344505 (γ 9 3) (rn_ty ht335968 ht335975 (by decide))).trans he344438
                      have he344509 : F344503 (γ 9 18) = .inl (I .boolean, 2000, .inl f344442) := (n344505 (γ 9 18) (rn_ty ht335977 ht335975 (by decide))).trans he344441
                      have he344510 : F344503 (γ 9 15) = .inl (I .int, 2000, .inl f344445) := (n344505 (γ 9 15) (rn_ty ht335974 ht335975 (by decide))).trans he344444
                      have he344511 : F344503 (γ 9 17) = .inl (I .int, 2000, .inl f344448) := (n344505 (γ 9 17) (rn_ty ht335976 ht335975 (by decide))).trans he344447
                      have he344512 : F344503 (γ 9 1) = .inl (I (.array .long), 2000, .inr (.inr (.inr (.inr f344468)))) := (n344505 (γ 9 1) (rn_ref_num he344467 he344499)).trans he344467
                      have he344513 : F344503 q344470 = .inl (I .long, 32, .inr (.inl f344475)) := (n344505 q344470 (rn_long_num he344474 he344499)).trans he344474
                      have he344514 : F344503 (γ 9 16) = .inl (I .int, 2000, .inl f344506) := e344504
                      have hs344515 : rStr γ [] F335940 F344503 := rStr_put hs344427 n344505 ht335975 (by decide)
                      have kp344516 : F344503 q335941 = F335940 q335941 := (n344505 q335941 (rn_ty htq335941 ht335975 (by decide))).trans x344431
                      have kp344517 : F344503 (γ 9 3) = F335940 (γ 9 3) := (n344505 (γ 9 3) (rn_ty ht335968 ht335975 (by decide))).trans x344432
                      obtain ⟨z344518, hz344518⟩ : ∃ z : Int32, z = g344424 + Int32.ofInt 1 := ⟨_, rfl⟩
                      have ez344518 : z344518.toInt = g344424.toInt + 1 := gI_inc hz344518 (by decide) bg344424' (by decide) (by decide)
                      have bz344518 : gB z344518 1 2000 := ⟨by omega, by omega⟩
                      refine G_iinc (L' := [(4, .int z344518), (2, .int z344323), (3, .int g343931), (0, .ref q335941), (1, .int p335942)]) z344518 0 dr_cX17_colours_127 rfl hz344518.symm (Nat.le_of_ble_eq_true rfl) rfl ?_
                      refine G_goto 94 dr_cX17_colours_130 (by decide +kernel) ?_
                      have hT344519 : RS D I P335939 F344503 γ el := RS_set hT344426 n344505 ht335975 (by decide) ⟨f344506, he344514⟩
                      exact ih94_344432 F344503 z344518 (gB_w bz344518 (by decide) (by decide)) hT344519 hs344515 (by rw [cB_of he344508, cB_of he344509, cB_of he344510]; exact cq344449) (by rw [cB_of he344509]; exact cq344450) (by rw [cB_of he344509]; exact cq344451) kp344516 kp344517 (fun k e1 ht => kt94_344433 k e1 (fun R c1 c2 c3 => c3 F344425 g344424 q344470 f344475 f344500 z344501 z344502 f344506 F344503 z344518 k e1 bg344424 hT344426 hs344427 x344428 x344429 x344430 x344431 x344432 r344464 fq344465 hx344472 he344474 r344494 fq344497 he344499 hz344501 hz344502 hf344506 n344505 he344514 ez344518 (ht R c1 c2 c3))) (mz_up ez344518 (Int.le_trans bg344424'.2 (by decide)) hm94_344432)
              exact hlp94_344432 (((2001 : Int) - 0).toNat + 1) F344326 0 (gB_w (gBl (show Int32.toInt 0 = 0 by decide)) (by decide) (by decide)) hT344339 hs344335 (by rw [ez344323]; rw [cB_of he344331, cB_of he344334, cB_of he344332]; exact pi_u hf344329 hf344314 (by omega) (by omega) cq343958) (by rw [cB_of he344334]; have q := td344338; have q2 := cq343959; omega) (by rw [cB_of he344334]; rw [cB_of he343950]; have q := td344338; omega) kp344336 kp344337 (fun k e1 ht => ht) (Nat.lt_succ_self _)
        exact hlp70_343941 ((rcn (cB (F343335 (γ 9 18))) 2000) + 1) F343335 o343366 0 bo343366 (gB_w (gBl (show Int32.toInt 0 = 0 by decide)) (by decide) (by decide)) hT343336 hs343337 (by rw [cB_of he343346, cB_of he343349, cB_of he343352]; exact fun m s => Or.inl (cq343357 m (by have := s.1; omega) s)) (by have q := rcn_le (g := cB (F343335 (γ 9 18))) 2000; have qa : Int32.toInt 0 = 0 := (by decide); omega) x343367 x343368 x343339 x343340 (fun k e1 e2 ht => ht) (Nat.lt_succ_self _)
      · have r344520 : g343334.toInt < 2000 := gj_nleL hc343358 (show Int32.toInt 2000 = 2000 by decide)
        have bg343334' : gB g343334 0 1999 := ⟨by omega, by omega⟩
        refine G_aload_n 1 dr_cX17_colours_9 rfl ?_
        have fq344521 : fR (F343335 q335941) 18 = (γ 9 18) := by rw [he343344]; rfl
        refine Gp_get 18 hm343345 he343344 dr_cX17_colours_10 (gk_X17 D I) (Nat.le_of_ble_eq_true rfl) wr_7_92 rfl ?_
        refine G_iload_n 0 dr_cX17_colours_13 rfl ?_
        refine G_aload_n 1 dr_cX17_colours_14 rfl ?_
        have fq344522 : fR (F343335 q335941) 3 = (γ 9 3) := by rw [he343344]; rfl
        refine Gp_get 3 hm343345 he343344 dr_cX17_colours_15 (gk_X17 D I) (Nat.le_of_ble_eq_true rfl) wr_7_77 rfl ?_
        refine G_iload_n 0 dr_cX17_colours_18 rfl ?_
        refine Gp_zald 3 hm343347 he343346 dr_cX17_colours_19 rfl (gB_in bg343334' (by decide) (by decide)) (G_nam fun z344523 hz344523 => ?_)
        have bz344523 : gB z344523 0 1 := by rw [hz344523]; exact bf335993 _
        refine Gp_zast 3 hm343348 he343349 dr_cX17_colours_20 rfl (gB_in bg343334' (by decide) (by decide)) (fun F344524 e344525 n344526 => ?_)
        obtain ⟨f344527, hf344527⟩ : ∃ z, z = upd f343350 g343334.toNatClampNeg (vp_nar .boolean z344523) := ⟨_, rfl⟩
        rw [← hf344527] at e344525
        have he344528 : F344524 q335941 = .inr (22, [.ref (γ 9 0), .ref (γ 9 1), .ref (γ 9 2), .ref (γ 9 3), .ref (γ 9 4), .ref (γ 9 5), .ref (γ 9 6), .ref (γ 9 7), .ref (γ 9 8), .int p335948, .int p335949, .int p335950, .int p335951, .int p335952, .int p335953, .ref (γ 9 15), .ref (γ 9 16), .ref (γ 9 17), .ref (γ 9 18), .ref (γ 9 19), .ref (γ 9 20), .ref (γ 9 21), .ref (γ 9 22), .int p335954, .int p335955, .int p335956, .int p335957, .int p335958, .ref q335946, .ref (γ 9 29), .int p335959, .ref (γ 9 31), .int p335960, .int p335961, .int p335962, .ref q335947]) := (n344526 q335941 (rn_oa he343344 he343349)).trans he343344
        have he344529 : F344524 (γ 9 3) = .inl (I .boolean, 2000, .inl f335993) := (n344526 (γ 9 3) (rn_ty ht335968 ht335977 (by decide))).trans he343346
        have he344530 : F344524 (γ 9 15) = .inl (I .int, 2000, .inl f343353) := (n344526 (γ 9 15) (rn_ty ht335974 ht335977 (by decide))).trans he343352
        have he344531 : F344524 (γ 9 17) = .inl (I .int, 2000, .inl f343356) := (n344526 (γ 9 17) (rn_ty ht335976 ht335977 (by decide))).trans he343355
        have he344532 : F344524 (γ 9 18) = .inl (I .boolean, 2000, .inl f344527) := e344525
        have hs344533 : rStr γ [] F335940 F344524 := rStr_put hs343337 n344526 ht335977 (by decide)
        have kp344534 : F344524 q335941 = F335940 q335941 := (n344526 q335941 (rn_ty htq335941 ht335977 (by decide))).trans x343339
        have kp344535 : F344524 (γ 9 3) = F335940 (γ 9 3) := (n344526 (γ 9 3) (rn_ty ht335968 ht335977 (by decide))).trans x343340
        have bf344527 : gF f344527 0 1 := gF_upd hf344527 bf343350 (gB_nb bz344523)
        refine G_aload_n 1 dr_cX17_colours_21 rfl ?_
        have fq344536 : fR (F344524 q335941) 16 = (γ 9 16) := by rw [he344528]; rfl
        refine Gp_get 16 hm343345 he344528 dr_cX17_colours_22 (gk_X17 D I) (Nat.le_of_ble_eq_true rfl) wr_7_90 rfl ?_
        refine G_iload_n 0 dr_cX17_colours_25 rfl ?_
        refine G_aload_n 1 dr_cX17_colours_26 rfl ?_
        have fq344537 : fR (F344524 q335941) 3 = (γ 9 3) := by rw [he344528]; rfl
        refine Gp_get 3 hm343345 he344528 dr_cX17_colours_27 (gk_X17 D I) (Nat.le_of_ble_eq_true rfl) wr_7_77 rfl ?_
        refine G_iload_n 0 dr_cX17_colours_30 rfl ?_
        refine Gp_zald 3 hm343347 he344529 dr_cX17_colours_31 rfl (gB_in bg343334' (by decide) (by decide)) (G_eqi (y := z344523) hz344523.symm ?_)
        refine G_if_eq 47 dr_cX17_colours_32 (by decide +kernel) (fun hc344538 => ?_) (fun hc344538 => ?_)
        · have r344539 : z344523.toInt = 0 := gj_eq hc344538 (show Int32.toInt 0 = 0 by decide)
          have bz344523' : gB z344523 0 0 := gB_t0 r344539
          refine G_iconst 0 dr_cX17_colours_47 (by decide +kernel) ?_
          have hT344540 : RS D I P335939 F344524 γ el := RS_set hT343336 n344526 ht335977 (by decide) ⟨f344527, he344532, bf344527⟩
          have hm344541 : (γ 9 16) ∈ P335939 := RS_m hT344540 ht335975 (by decide)
          obtain ⟨f344543, he344542⟩ := show rk_19 I (F344524 (γ 9 16)) from RS_o hT344540 ht335975
          refine Gp_iast 0 hm344541 he344542 dr_cX17_colours_48 rfl (gB_in bg343334' (by decide) (by decide)) (fun F344544 e344545 n344546 => ?_)
          obtain ⟨f344547, hf344547⟩ : ∃ z, z = upd f344543 g343334.toNatClampNeg 0 := ⟨_, rfl⟩
          rw [← hf344547] at e344545
          have he344548 : F344544 q335941 = .inr (22, [.ref (γ 9 0), .ref (γ 9 1), .ref (γ 9 2), .ref (γ 9 3), .ref (γ 9 4), .ref (γ 9 5), .ref (γ 9 6), .ref (γ 9 7), .ref (γ 9 8), .int p335948, .int p335949, .int p335950, .int p335951, .int p335952, .int p335953, .ref (γ 9 15), .ref (γ 9 16), .ref (γ 9 17), .ref (γ 9 18), .ref (γ 9 19), .ref (γ 9 20), .ref (γ 9 21), .ref (γ 9 22), .int p335954, .int p335955, .int p335956, .int p335957, .int p335958, .ref q335946, .ref (γ 9 29), .int p335959, .ref (γ 9 31), .int p335960, .int p335961, .int p335962, .ref q335947]) := (n344546 q335941 (rn_oa he344528 he344542)).trans he344528
          have he344549 : F344544 (γ 9 3) = .inl (I .boolean, 2000, .inl f335993) := (n344546 (γ 9 3) (rn_ty ht335968 ht335975 (by decide))).trans he344529
          have he344550 : F344544 (γ 9 18) = .inl (I .boolean, 2000, .inl f344527) := (n344546 (γ 9 18) (rn_ty ht335977 ht335975 (by decide))).trans he344532
          have he344551 : F344544 (γ 9 15) = .inl (I .int, 2000, .inl f343353) := (n344546 (γ 9 15) (rn_ty ht335974 ht335975 (by decide))).trans he344530
          have he344552 : F344544 (γ 9 17) = .inl (I .int, 2000, .inl f343356) := (n344546 (γ 9 17) (rn_ty ht335976 ht335975 (by decide))).trans he344531
          have he344553 : F344544 (γ 9 16) = .inl (I .int, 2000, .inl f344547) := e344545
          have hs344554 : rStr γ [] F335940 F344544 := rStr_put hs344533 n344546 ht335975 (by decide)
          have kp344555 : F344544 q335941 = F335940 q335941 := (n344546 q335941 (rn_ty htq335941 ht335975 (by decide))).trans kp344534
          have kp344556 : F344544 (γ 9 3) = F335940 (γ 9 3) := (n344546 (γ 9 3) (rn_ty ht335968 ht335975 (by decide))).trans kp344535
          refine G_aload_n 1 dr_cX17_colours_49 rfl ?_
          have fq344557 : fR (F344544 q335941) 17 = (γ 9 17) := by rw [he344548]; rfl
          refine Gp_get 17 hm343345 he344548 dr_cX17_colours_50 (gk_X17 D I) (Nat.le_of_ble_eq_true rfl) wr_7_91 rfl ?_
          refine G_iload_n 0 dr_cX17_colours_53 rfl ?_
          refine G_iconst (-1) dr_cX17_colours_54 (by decide +kernel) ?_
          have hT344558 : RS D I P335939 F344544 γ el := RS_set hT344540 n344546 ht335975 (by decide) ⟨f344547, he344553⟩
          refine Gp_iast 0 hm343354 he344552 dr_cX17_colours_55 rfl (gB_in bg343334' (by decide) (by decide)) (fun F344559 e344560 n344561 => ?_)
          obtain ⟨f344562, hf344562⟩ : ∃ z, z = upd f343356 g343334.toNatClampNeg (-1) := ⟨_, rfl⟩
          rw [← hf344562] at e344560
          have he344563 : F344559 q335941 = .inr (22, [.ref (γ 9 0), .ref (γ 9 1), .ref (γ 9 2), .ref (γ 9 3), .ref (γ 9 4), .ref (γ 9 5), .ref (γ 9 6), .ref (γ 9 7), .ref (γ 9 8), .int p335948, .int p335949, .int p335950, .int p335951, .int p335952, .int p335953, .ref (γ 9 15), .ref (γ 9 16), .ref (γ 9 17), .ref (γ 9 18), .ref (γ 9 19), .ref (γ 9 20), .ref (γ 9 21), .ref (γ 9 22), .int p335954, .int p335955, .int p335956, .int p335957, .int p335958, .ref q335946, .ref (γ 9 29), .int p335959, .ref (γ 9 31), .int p335960, .int p335961, .int p335962, .ref q335947]) := (n344561 q335941 (rn_oa he344548 he344552)).trans he344548
          have he344564 : F344559 (γ 9 3) = .inl (I .boolean, 2000, .inl f335993) := (n344561 (γ 9 3) (rn_ty ht335968 ht335976 (by decide))).trans he344549
          have he344565 : F344559 (γ 9 18) = .inl (I .boolean, 2000, .inl f344527) := (n344561 (γ 9 18) (rn_ty ht335977 ht335976 (by decide))).trans he344550
          have he344566 : F344559 (γ 9 15) = .inl (I .int, 2000, .inl f343353) := (n344561 (γ 9 15) (rn_ty ht335974 ht335976 (by decide))).trans he344551
          have he344567 : F344559 (γ 9 16) = .inl (I .int, 2000, .inl f344547) := (n344561 (γ 9 16) (rn_ty ht335975 ht335976 (by decide))).trans he344553
          have he344568 : F344559 (γ 9 17) = .inl (I .int, 2000, .inl f344562) := e344560
          have hs344569 : rStr γ [] F335940 F344559 := rStr_put hs344554 n344561 ht335976 (by decide)
          have kp344570 : F344559 q335941 = F335940 q335941 := (n344561 q335941 (rn_ty htq335941 ht335976 (by decide))).trans kp344555
          have kp344571 : F344559 (γ 9 3) = F335940 (γ 9 3) := (n344561 (γ 9 3) (rn_ty ht335968 ht335976 (by decide))).trans kp344556
          have bf344562 : gF f344562 (-1) 31 := gF_upd hf344562 bf343356 (gB_w (gBl (show Int32.toInt (-1) = (-1) by decide)) (by decide) (by decide))
          obtain ⟨z344572, hz344572⟩ : ∃ z : Int32, z = g343334 + Int32.ofInt 1 := ⟨_, rfl⟩
          have ez344572 : z344572.toInt = g343334.toInt + 1 := gI_inc hz344572 (by decide) bg343334' (by decide) (by decide)
          have bz344572 : gB z344572 1 2000 := ⟨by omega, by omega⟩
          refine G_iinc (L' := [(2, .int z344572), (0, .ref q335941), (1, .int p335942)]) z344572 0 dr_cX17_colours_56 rfl hz344572.symm (Nat.le_of_ble_eq_true rfl) rfl ?_
          refine G_goto 2 dr_cX17_colours_59 (by decide +kernel) ?_
          have hT344573 : RS D I P335939 F344559 γ el := RS_set hT344558 n344561 ht335976 (by decide) ⟨f344562, he344568, bf344562⟩
          exact ih2_343340 F344559 z344572 (gB_w bz344572 (by decide) (by decide)) hT344573 hs344569 (by rw [ez344572]; rw [cB_of he344564, cB_of he344565]; exact th_u hf344527 hz344523 (by assumption) (by omega) cq343357) kp344570 kp344571 (fun k e1 ht => kt2_343341 k e1 (fun R c1 c2 c3 => c2 F343335 g343334 f335993 z344523 f343350 f344527 F344524 f344543 f344547 F344544 f343356 f344562 F344559 z344572 k e1 bg343334 hT343336 hs343337 x343338 x343339 x343340 r344520 fq344521 fq344522 he343346 hz344523 bz344523 he343349 hf344527 n344526 he344532 fq344536 fq344537 he344529 r344539 he344542 hf344547 n344546 he344553 fq344557 he344552 hf344562 n344561 he344568 ez344572 (ht R c1 c2 c3))) (mz_up ez344572 (Int.le_trans bg343334'.2 (by decide)) hm2_343340)
        · have r344574 : z344523.toInt ≠ 0 := gj_neq hc344538 (show Int32.toInt 0 = 0 by decide)
          have bz344523' : gB z344523 1 1 := gB_t1 bz344523 r344574
          refine G_aload_n 1 dr_cX17_colours_35 rfl ?_
          have fq344575 : fR (F344524 q335941) 1 = (γ 9 1) := by rw [he344528]; rfl
          refine Gp_get 1 hm343345 he344528 dr_cX17_colours_36 (gk_X17 D I) (Nat.le_of_ble_eq_true rfl) wr_7_75 rfl ?_
          refine G_iload_n 0 dr_cX17_colours_39 rfl ?_
          have hT344576 : RS D I P335939 F344524 γ el := RS_set hT343336 n344526 ht335977 (by decide) ⟨f344527, he344532, bf344527⟩
          have hm344577 : (γ 9 1) ∈ P335939 := RS_m hT344576 ht335966 (by decide)
          obtain ⟨f344579, he344578, hg344580⟩ := show rk_13 I γ (F344524 (γ 9 1)) from RS_o hT344576 ht335966
          obtain ⟨q344581, hx344583⟩ : ∃ x, x = γ 11 g343334.toInt.toNat := ⟨_, rfl⟩
          have ht344582 : rKd γ q344581 36 := by rw [hx344583]; exact (hg344580 _ (show g343334.toInt.toNat < 2000 by omega)).2.1
          refine Gp_aald 5 hm344577 he344578 dr_cX17_colours_40 rfl rfl (gB_in bg343334' (by decide) (by decide)) ?_
          rw [show f344579 g343334.toNatClampNeg = some q344581 from (hg344580 _ (show g343334.toInt.toNat < 2000 by omega)).1.trans (by rw [hx344583])]
          change G _ _ _ _ _ _ _ (.ref q344581 :: _) _ _ _
          have hm344584 : q344581 ∈ P335939 := RS_m hT344576 ht344582 (by decide)
          obtain ⟨f344586, he344585, wf344586⟩ := show rk_36 I (F344524 q344581) from RS_o hT344576 ht344582
          refine Gw_callS (As := [.ref q344581]) (gV_ok D I) (cp_1899_SpillForgeModel_count l hl0 D I P335939 F344524 q344581 f344586 hm344584 he344585) dr_cX17_colours_41 ⟨wr_11_16, wr_1_14, wr_11_18, by decide, rfl, (Nat.le_of_ble_eq_true rfl), (Nat.le_of_ble_eq_true rfl)⟩ wr_11_17 (show 0 + 0 ≤ 0 by first | omega | decide) (show 0 + 0 ≤ 0 by first | omega | decide) (Nat.le_of_ble_eq_true rfl) (fun r344590 w344591 dc344587 ds344588 hp344589 => ?_) (fun _ _ _ _ _ z => z.elim)
          obtain ⟨o344592, rfl, rfl, hdc, hds, ht344593⟩ := hp344589
          have bo344592 := gB_any o344592
          change G _ _ _ _ _ _ _ (.int o344592 :: _) _ _ _
          refine G_widen (cs' := 0) (sl' := 0) (by omega) (by omega) ?_
          refine G_goto 48 dr_cX17_colours_44 (by decide +kernel) ?_
          have hm344594 : (γ 9 16) ∈ P335939 := RS_m hT344576 ht335975 (by decide)
          obtain ⟨f344596, he344595⟩ := show rk_19 I (F344524 (γ 9 16)) from RS_o hT344576 ht335975
          refine Gp_iast 0 hm344594 he344595 dr_cX17_colours_48 rfl (gB_in bg343334' (by decide) (by decide)) (fun F344597 e344598 n344599 => ?_)
          obtain ⟨f344600, hf344600⟩ : ∃ z, z = upd f344596 g343334.toNatClampNeg o344592 := ⟨_, rfl⟩
          rw [← hf344600] at e344598
          have he344601 : F344597 q335941 = .inr (22, [.ref (γ 9 0), .ref (γ 9 1), .ref (γ 9 2), .ref (γ 9 3), .ref (γ 9 4), .ref (γ 9 5), .ref (γ 9 6), .ref (γ 9 7), .ref (γ 9 8), .int p335948, .int p335949, .int p335950, .int p335951, .int p335952, .int p335953, .ref (γ 9 15), .ref (γ 9 16), .ref (γ 9 17), .ref (γ 9 18), .ref (γ 9 19), .ref (γ 9 20), .ref (γ 9 21), .ref (γ 9 22), .int p335954, .int p335955, .int p335956, .int p335957, .int p335958, .ref q335946, .ref (γ 9 29), .int p335959, .ref (γ 9 31), .int p335960, .int p335961, .int p335962, .ref q335947]) := (n344599 q335941 (rn_oa he344528 he344595)).trans he344528
          have he344602 : F344597 (γ 9 3) = .inl (I .boolean, 2000, .inl f335993) := (n344599 (γ 9 3) (rn_ty ht335968 ht335975 (by decide))).trans he344529
          have he344603 : F344597 (γ 9 18) = .inl (I .boolean, 2000, .inl f344527) := (n344599 (γ 9 18) (rn_ty ht335977 ht335975 (by decide))).trans he344532
          have he344604 : F344597 (γ 9 15) = .inl (I .int, 2000, .inl f343353) := (n344599 (γ 9 15) (rn_ty ht335974 ht335975 (by decide))).trans he344530
          have he344605 : F344597 (γ 9 17) = .inl (I .int, 2000, .inl f343356) := (n344599 (γ 9 17) (rn_ty ht335976 ht335975 (by decide))).trans he344531
          have he344606 : F344597 (γ 9 1) = .inl (I (.array .long), 2000, .inr (.inr (.inr (.inr f344579)))) := (n344599 (γ 9 1) (rn_ref_num he344578 he344595)).trans he344578
          have he344607 : F344597 q344581 = .inl (I .long, 32, .inr (.inl f344586)) := (n344599 q344581 (rn_long_num he344585 he344595)).trans he344585
          have he344608 : F344597 (γ 9 16) = .inl (I .int, 2000, .inl f344600) := e344598
          have hs344609 : rStr γ [] F335940 F344597 := rStr_put hs344533 n344599 ht335975 (by decide)
          have kp344610 : F344597 q335941 = F335940 q335941 := (n344599 q335941 (rn_ty htq335941 ht335975 (by decide))).trans kp344534
          have kp344611 : F344597 (γ 9 3) = F335940 (γ 9 3) := (n344599 (γ 9 3) (rn_ty ht335968 ht335975 (by decide))).trans kp344535
          refine G_aload_n 1 dr_cX17_colours_49 rfl ?_
          have fq344612 : fR (F344597 q335941) 17 = (γ 9 17) := by rw [he344601]; rfl
          refine Gp_get 17 hm343345 he344601 dr_cX17_colours_50 (gk_X17 D I) (Nat.le_of_ble_eq_true rfl) wr_7_91 rfl ?_
          refine G_iload_n 0 dr_cX17_colours_53 rfl ?_
          refine G_iconst (-1) dr_cX17_colours_54 (by decide +kernel) ?_
          have hT344613 : RS D I P335939 F344597 γ el := RS_set hT344576 n344599 ht335975 (by decide) ⟨f344600, he344608⟩
          refine Gp_iast 0 hm343354 he344605 dr_cX17_colours_55 rfl (gB_in bg343334' (by decide) (by decide)) (fun F344614 e344615 n344616 => ?_)
          obtain ⟨f344617, hf344617⟩ : ∃ z, z = upd f343356 g343334.toNatClampNeg (-1) := ⟨_, rfl⟩
          rw [← hf344617] at e344615
          have he344618 : F344614 q335941 = .inr (22, [.ref (γ 9 0), .ref (γ 9 1), .ref (γ 9 2), .ref (γ 9 3), .ref (γ 9 4), .ref (γ 9 5), .ref (γ 9 6), .ref (γ 9 7), .ref (γ 9 8), .int p335948, .int p335949, .int p335950, .int p335951, .int p335952, .int p335953, .ref (γ 9 15), .ref (γ 9 16), .ref (γ 9 17), .ref (γ 9 18), .ref (γ 9 19), .ref (γ 9 20), .ref (γ 9 21), .ref (γ 9 22), .int p335954, .int p335955, .int p335956, .int p335957, .int p335958, .ref q335946, .ref (γ 9 29), .int p335959, .ref (γ 9 31), .int p335960, .int p335961, .int p335962, .ref q335947]) := (n344616 q335941 (rn_oa he344601 he344605)).trans he344601
          have he344619 : F344614 (γ 9 3) = .inl (I .boolean, 2000, .inl f335993) := (n344616 (γ 9 3) (rn_ty ht335968 ht335976 (by decide))).trans he344602
          have he344620 : F344614 (γ 9 18) = .inl (I .boolean, 2000, .inl f344527) := (n344616 (γ 9 18) (rn_ty ht335977 ht335976 (by decide))).trans he344603
          have he344621 : F344614 (γ 9 15) = .inl (I .int, 2000, .inl f343353) := (n344616 (γ 9 15) (rn_ty ht335974 ht335976 (by decide))).trans he344604
          have he344622 : F344614 (γ 9 1) = .inl (I (.array .long), 2000, .inr (.inr (.inr (.inr f344579)))) := (n344616 (γ 9 1) (rn_ref_num he344606 he344605)).trans he344606
          have he344623 : F344614 q344581 = .inl (I .long, 32, .inr (.inl f344586)) := (n344616 q344581 (rn_long_num he344607 he344605)).trans he344607
          have he344624 : F344614 (γ 9 16) = .inl (I .int, 2000, .inl f344600) := (n344616 (γ 9 16) (rn_ty ht335975 ht335976 (by decide))).trans he344608
          have he344625 : F344614 (γ 9 17) = .inl (I .int, 2000, .inl f344617) := e344615
          have hs344626 : rStr γ [] F335940 F344614 := rStr_put hs344609 n344616 ht335976 (by decide)
          have kp344627 : F344614 q335941 = F335940 q335941 := (n344616 q335941 (rn_ty htq335941 ht335976 (by decide))).trans kp344610
          have kp344628 : F344614 (γ 9 3) = F335940 (γ 9 3) := (n344616 (γ 9 3) (rn_ty ht335968 ht335976 (by decide))).trans kp344611
          have bf344617 : gF f344617 (-1) 31 := gF_upd hf344617 bf343356 (gB_w (gBl (show Int32.toInt (-1) = (-1) by decide)) (by decide) (by decide))
          obtain ⟨z344629, hz344629⟩ : ∃ z : Int32, z = g343334 + Int32.ofInt 1 := ⟨_, rfl⟩
          have ez344629 : z344629.toInt = g343334.toInt + 1 := gI_inc hz344629 (by decide) bg343334' (by decide) (by decide)
          have bz344629 : gB z344629 1 2000 := ⟨by omega, by omega⟩
          refine G_iinc (L' := [(2, .int z344629), (0, .ref q335941), (1, .int p335942)]) z344629 0 dr_cX17_colours_56 rfl hz344629.symm (Nat.le_of_ble_eq_true rfl) rfl ?_
          refine G_goto 2 dr_cX17_colours_59 (by decide +kernel) ?_
          have hT344630 : RS D I P335939 F344614 γ el := RS_set hT344613 n344616 ht335976 (by decide) ⟨f344617, he344625, bf344617⟩
          exact ih2_343340 F344614 z344629 (gB_w bz344629 (by decide) (by decide)) hT344630 hs344626 (by rw [ez344629]; rw [cB_of he344619, cB_of he344620]; exact th_u hf344527 hz344523 (by assumption) (by omega) cq343357) kp344627 kp344628 (fun k e1 ht => kt2_343341 k e1 (fun R c1 c2 c3 => c3 F343335 g343334 f335993 z344523 f343350 f344527 F344524 q344581 f344586 o344592 f344596 f344600 F344597 f343356 f344617 F344614 z344629 k e1 bg343334 hT343336 hs343337 x343338 x343339 x343340 r344520 fq344521 fq344522 he343346 hz344523 bz344523 he343349 hf344527 n344526 he344532 fq344536 fq344537 he344529 r344574 fq344575 hx344583 he344585 ht344593 he344595 hf344600 n344599 he344608 fq344612 he344605 hf344617 n344616 he344625 ez344629 (ht R c1 c2 c3))) (mz_up ez344629 (Int.le_trans bg343334'.2 (by decide)) hm2_343340)
  exact hlp2_343340 (((2001 : Int) - 0).toNat + 1) F335940 0 (gB_w (gBl (show Int32.toInt 0 = 0 by decide)) (by decide) (by decide)) hT (rStr_rf (γ := γ) (W := []) (F := F335940)) (fun m hm => absurd hm (by have qa : Int32.toInt 0 = 0 := (by decide); omega)) rfl rfl (fun k e1 ht => ht) (Nat.lt_succ_self _)
/- tr_RModel_coloured: F -/
def tr_RModel_coloured (D : va_G) (I : FieldType → ClassId) (γ el : Nat → Nat → Nat) (F : Nat → va_E) (q0 : Nat) (q1 : Nat) (o1 : Nat → va_E) : Prop := ∀ R : (Nat → va_E) → Prop,
  (∀ (x1 : Int32) (x2 : Int32) (x3 : Int32) (x4 : Int32) (x5 : Int32) (x6 : Int32), fI (F q1) 0 = x1 → fI (F q1) 5 = x2 → gB x3 0 1 → tr_RRow_usesA2 x1 x2 x3 → x3.toInt = 0 → fI (F q1) 6 = x4 → gB x5 0 1 → tr_RRow_usesB2 x1 x4 x5 → x5.toInt = 0 → gB x6 0 1 → tr_RRow_sets2 x1 x6 → x6.toInt = 0 → R F) →
  (∀ (x1 : Int32) (x2 : Int32) (x3 : Int32) (x4 : Int32) (x5 : Int32) (x6 : Int32) (x7 : Int32) (x8 : Nat → Int32) (x9 : Int32) (x10 : Nat → va_E), fI (F q1) 0 = x1 → fI (F q1) 5 = x2 → gB x3 0 1 → tr_RRow_usesA2 x1 x2 x3 → x3.toInt = 0 → fI (F q1) 6 = x4 → gB x5 0 1 → tr_RRow_usesB2 x1 x4 x5 → x5.toInt = 0 → gB x6 0 1 → tr_RRow_sets2 x1 x6 → x6.toInt ≠ 0 → fR (F q0) 17 = (γ 9 17) → fI (F q1) 1 = x7 → F (γ 9 17) = .inl (I .int, 2000, .inl x8) → x9 = x8 x7.toNatClampNeg → gB x9 (-1) 31 → (∀ b, b ≠ q1 → x10 b = F b) → x10 q1 = cF (F q1) 1 (.int x9) → R x10) →
  (∀ (x1 : Int32) (x2 : Int32) (x3 : Int32) (x4 : Int32) (x5 : Int32) (x6 : Int32) (x7 : Nat → Int32) (x8 : Int32) (x9 : Nat → va_E) (x10 : Int32), fI (F q1) 0 = x1 → fI (F q1) 5 = x2 → gB x3 0 1 → tr_RRow_usesA2 x1 x2 x3 → x3.toInt = 0 → fI (F q1) 6 = x4 → gB x5 0 1 → tr_RRow_usesB2 x1 x4 x5 → x5.toInt ≠ 0 → fR (F q0) 17 = (γ 9 17) → fI (F q1) 3 = x6 → F (γ 9 17) = .inl (I .int, 2000, .inl x7) → x8 = x7 x6.toNatClampNeg → gB x8 (-1) 31 → (∀ b, b ≠ q1 → x9 b = F b) → x9 q1 = cF (F q1) 3 (.int x8) → fI (x9 q1) 0 = x1 → gB x10 0 1 → tr_RRow_sets2 x1 x10 → x10.toInt = 0 → R x9) →
  (∀ (x1 : Int32) (x2 : Int32) (x3 : Int32) (x4 : Int32) (x5 : Int32) (x6 : Int32) (x7 : Nat → Int32) (x8 : Int32) (x9 : Nat → va_E) (x10 : Int32) (x11 : Int32) (x12 : Int32) (x13 : Nat → va_E), fI (F q1) 0 = x1 → fI (F q1) 5 = x2 → gB x3 0 1 → tr_RRow_usesA2 x1 x2 x3 → x3.toInt = 0 → fI (F q1) 6 = x4 → gB x5 0 1 → tr_RRow_usesB2 x1 x4 x5 → x5.toInt ≠ 0 → fR (F q0) 17 = (γ 9 17) → fI (F q1) 3 = x6 → F (γ 9 17) = .inl (I .int, 2000, .inl x7) → x8 = x7 x6.toNatClampNeg → gB x8 (-1) 31 → (∀ b, b ≠ q1 → x9 b = F b) → x9 q1 = cF (F q1) 3 (.int x8) → fI (x9 q1) 0 = x1 → gB x10 0 1 → tr_RRow_sets2 x1 x10 → x10.toInt ≠ 0 → fR (x9 q0) 17 = (γ 9 17) → fI (x9 q1) 1 = x11 → x9 (γ 9 17) = .inl (I .int, 2000, .inl x7) → x12 = x7 x11.toNatClampNeg → gB x12 (-1) 31 → (∀ b, b ≠ q1 → x13 b = x9 b) → x13 q1 = cF (x9 q1) 1 (.int x12) → R x13) →
  (∀ (x1 : Int32) (x2 : Int32) (x3 : Int32) (x4 : Int32) (x5 : Nat → Int32) (x6 : Int32) (x7 : Nat → va_E) (x8 : Int32) (x9 : Int32) (x10 : Int32), fI (F q1) 0 = x1 → fI (F q1) 5 = x2 → gB x3 0 1 → tr_RRow_usesA2 x1 x2 x3 → x3.toInt ≠ 0 → fR (F q0) 17 = (γ 9 17) → fI (F q1) 2 = x4 → F (γ 9 17) = .inl (I .int, 2000, .inl x5) → x6 = x5 x4.toNatClampNeg → gB x6 (-1) 31 → (∀ b, b ≠ q1 → x7 b = F b) → x7 q1 = cF (F q1) 2 (.int x6) → fI (x7 q1) 0 = x1 → fI (x7 q1) 6 = x8 → gB x9 0 1 → tr_RRow_usesB2 x1 x8 x9 → x9.toInt = 0 → gB x10 0 1 → tr_RRow_sets2 x1 x10 → x10.toInt = 0 → R x7) →
  (∀ (x1 : Int32) (x2 : Int32) (x3 : Int32) (x4 : Int32) (x5 : Nat → Int32) (x6 : Int32) (x7 : Nat → va_E) (x8 : Int32) (x9 : Int32) (x10 : Int32) (x11 : Int32) (x12 : Int32) (x13 : Nat → va_E), fI (F q1) 0 = x1 → fI (F q1) 5 = x2 → gB x3 0 1 → tr_RRow_usesA2 x1 x2 x3 → x3.toInt ≠ 0 → fR (F q0) 17 = (γ 9 17) → fI (F q1) 2 = x4 → F (γ 9 17) = .inl (I .int, 2000, .inl x5) → x6 = x5 x4.toNatClampNeg → gB x6 (-1) 31 → (∀ b, b ≠ q1 → x7 b = F b) → x7 q1 = cF (F q1) 2 (.int x6) → fI (x7 q1) 0 = x1 → fI (x7 q1) 6 = x8 → gB x9 0 1 → tr_RRow_usesB2 x1 x8 x9 → x9.toInt = 0 → gB x10 0 1 → tr_RRow_sets2 x1 x10 → x10.toInt ≠ 0 → fR (x7 q0) 17 = (γ 9 17) → fI (x7 q1) 1 = x11 → x7 (γ 9 17) = .inl (I .int, 2000, .inl x5) → x12 = x5 x11.toNatClampNeg → gB x12 (-1) 31 → (∀ b, b ≠ q1 → x13 b = x7 b) → x13 q1 = cF (x7 q1) 1 (.int x12) → R x13) →
  (∀ (x1 : Int32) (x2 : Int32) (x3 : Int32) (x4 : Int32) (x5 : Nat → Int32) (x6 : Int32) (x7 : Nat → va_E) (x8 : Int32) (x9 : Int32) (x10 : Int32) (x11 : Int32) (x12 : Nat → va_E) (x13 : Int32), fI (F q1) 0 = x1 → fI (F q1) 5 = x2 → gB x3 0 1 → tr_RRow_usesA2 x1 x2 x3 → x3.toInt ≠ 0 → fR (F q0) 17 = (γ 9 17) → fI (F q1) 2 = x4 → F (γ 9 17) = .inl (I .int, 2000, .inl x5) → x6 = x5 x4.toNatClampNeg → gB x6 (-1) 31 → (∀ b, b ≠ q1 → x7 b = F b) → x7 q1 = cF (F q1) 2 (.int x6) → fI (x7 q1) 0 = x1 → fI (x7 q1) 6 = x8 → gB x9 0 1 → tr_RRow_usesB2 x1 x8 x9 → x9.toInt ≠ 0 → fR (x7 q0) 17 = (γ 9 17) → fI (x7 q1) 3 = x10 → x7 (γ 9 17) = .inl (I .int, 2000, .inl x5) → x11 = x5 x10.toNatClampNeg → gB x11 (-1) 31 → (∀ b, b ≠ q1 → x12 b = x7 b) → x12 q1 = cF (x7 q1) 3 (.int x11) → fI (x12 q1) 0 = x1 → gB x13 0 1 → tr_RRow_sets2 x1 x13 → x13.toInt = 0 → R x12) →
  (∀ (x1 : Int32) (x2 : Int32) (x3 : Int32) (x4 : Int32) (x5 : Nat → Int32) (x6 : Int32) (x7 : Nat → va_E) (x8 : Int32) (x9 : Int32) (x10 : Int32) (x11 : Int32) (x12 : Nat → va_E) (x13 : Int32) (x14 : Int32) (x15 : Int32) (x16 : Nat → va_E), fI (F q1) 0 = x1 → fI (F q1) 5 = x2 → gB x3 0 1 → tr_RRow_usesA2 x1 x2 x3 → x3.toInt ≠ 0 → fR (F q0) 17 = (γ 9 17) → fI (F q1) 2 = x4 → F (γ 9 17) = .inl (I .int, 2000, .inl x5) → x6 = x5 x4.toNatClampNeg → gB x6 (-1) 31 → (∀ b, b ≠ q1 → x7 b = F b) → x7 q1 = cF (F q1) 2 (.int x6) → fI (x7 q1) 0 = x1 → fI (x7 q1) 6 = x8 → gB x9 0 1 → tr_RRow_usesB2 x1 x8 x9 → x9.toInt ≠ 0 → fR (x7 q0) 17 = (γ 9 17) → fI (x7 q1) 3 = x10 → x7 (γ 9 17) = .inl (I .int, 2000, .inl x5) → x11 = x5 x10.toNatClampNeg → gB x11 (-1) 31 → (∀ b, b ≠ q1 → x12 b = x7 b) → x12 q1 = cF (x7 q1) 3 (.int x11) → fI (x12 q1) 0 = x1 → gB x13 0 1 → tr_RRow_sets2 x1 x13 → x13.toInt ≠ 0 → fR (x12 q0) 17 = (γ 9 17) → fI (x12 q1) 1 = x14 → x12 (γ 9 17) = .inl (I .int, 2000, .inl x5) → x15 = x5 x14.toNatClampNeg → gB x15 (-1) 31 → (∀ b, b ≠ q1 → x16 b = x12 b) → x16 q1 = cF (x12 q1) 1 (.int x15) → R x16) →
  R o1
