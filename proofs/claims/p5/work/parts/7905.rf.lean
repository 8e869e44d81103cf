theorem dr_cX17_colours_0 : decode cX17_colours 0 = .ok (.iconst 0, 1) := by decide +kernel
theorem dr_cX17_colours_1 : decode cX17_colours 1 = .ok (.istore_n 2, 1) := by decide +kernel
theorem dr_cX17_colours_2 : decode cX17_colours 2 = .ok (.iload_n 2, 1) := by decide +kernel
theorem dr_cX17_colours_3 : decode cX17_colours 3 = .ok (.sipush 2000, 3) := by decide +kernel
theorem dr_cX17_colours_6 : decode cX17_colours 6 = .ok (.if_icmp .ge 56, 3) := by decide +kernel
theorem dr_cX17_colours_62 : decode cX17_colours 62 = .ok (.iconst 0, 1) := by decide +kernel
theorem dr_cX17_colours_63 : decode cX17_colours 63 = .ok (.istore_n 2, 1) := by decide +kernel
theorem dr_cX17_colours_64 : decode cX17_colours 64 = .ok (.aload_n 0, 1) := by decide +kernel
theorem dr_cX17_colours_65 : decode cX17_colours 65 = .ok (.iload_n 1, 1) := by decide +kernel
theorem dr_cX17_colours_66 : decode cX17_colours 66 = .ok (.invokevirtual 215, 3) := by decide +kernel
theorem wr_11_47 : (Jvm.Cond.methodLink "SpillForgeModel" (215 : Nat) ({ cls := "SpillForgeModel", name := "next", desc := "(I)I" } : Jvm.MethodName)) ∈ gw := gw_11 47 rfl rfl
theorem wr_11_50 : (Jvm.Cond.code ({ cls := "SpillForgeModel", name := "next", desc := "(I)I" } : Jvm.MethodName) prog_14_method_20_code (7 : Nat) (Option.some Jvm.ClassFile.FieldType.int)) ∈ gw := gw_11 50 rfl rfl
theorem wr_11_49 : (Jvm.Cond.instanceMethod ({ cls := "SpillForgeModel", name := "next", desc := "(I)I" } : Jvm.MethodName)) ∈ gw := gw_11 49 rfl rfl
theorem wr_p_107 : Cond.selects "SpillForgeModel" ⟨"SpillForgeModel", "next", "(I)I"⟩ ⟨"SpillForgeModel", "next", "(I)I"⟩ ∈ gw := gw_p _ 107 rfl rfl rfl
theorem dr_cX17_colours_69 : decode cX17_colours 69 = .ok (.istore_n 3, 1) := by decide +kernel
theorem dr_cX17_colours_70 : decode cX17_colours 70 = .ok (.iload_n 3, 1) := by decide +kernel
theorem dr_cX17_colours_71 : decode cX17_colours 71 = .ok (.ifCond .lt 71, 3) := by decide +kernel
theorem dr_cX17_colours_142 : decode cX17_colours 142 = .ok (.iconst 0, 1) := by decide +kernel
theorem dr_cX17_colours_143 : decode cX17_colours 143 = .ok (.istore_n 3, 1) := by decide +kernel
theorem dr_cX17_colours_144 : decode cX17_colours 144 = .ok (.iload_n 2, 1) := by decide +kernel
theorem dr_cX17_colours_145 : decode cX17_colours 145 = .ok (.ifCond .le 108, 3) := by decide +kernel
theorem dr_cX17_colours_253 : decode cX17_colours 253 = .ok (.iload_n 3, 1) := by decide +kernel
theorem dr_cX17_colours_254 : decode cX17_colours 254 = .ok (.ireturn, 1) := by decide +kernel
theorem dr_cX17_colours_148 : decode cX17_colours 148 = .ok (.iinc 2 (-1), 3) := by decide +kernel
theorem dr_cX17_colours_151 : decode cX17_colours 151 = .ok (.aload_n 0, 1) := by decide +kernel
theorem dr_cX17_colours_152 : decode cX17_colours 152 = .ok (.getfield 218, 3) := by decide +kernel
theorem wr_7_89 : (Jvm.Cond.fieldLink "SpillForgeModel" (218 : Nat) "SpillForgeModel" "pile" "[I") ∈ gw := gw_7 89 rfl rfl
theorem dr_cX17_colours_155 : decode cX17_colours 155 = .ok (.iload_n 2, 1) := by decide +kernel
theorem dr_cX17_colours_156 : decode cX17_colours 156 = .ok (.iaload, 1) := by decide +kernel
theorem dr_cX17_colours_157 : decode cX17_colours 157 = .ok (.istore 4, 2) := by decide +kernel
theorem dr_cX17_colours_159 : decode cX17_colours 159 = .ok (.lconst 0, 1) := by decide +kernel
theorem dr_cX17_colours_160 : decode cX17_colours 160 = .ok (.lstore 5, 2) := by decide +kernel
theorem dr_cX17_colours_162 : decode cX17_colours 162 = .ok (.iconst 0, 1) := by decide +kernel
theorem dr_cX17_colours_163 : decode cX17_colours 163 = .ok (.istore 7, 2) := by decide +kernel
theorem dr_cX17_colours_165 : decode cX17_colours 165 = .ok (.iload 7, 2) := by decide +kernel
theorem dr_cX17_colours_167 : decode cX17_colours 167 = .ok (.sipush 2000, 3) := by decide +kernel
theorem dr_cX17_colours_170 : decode cX17_colours 170 = .ok (.if_icmp .ge 48, 3) := by decide +kernel
theorem dr_cX17_colours_218 : decode cX17_colours 218 = .ok (.lload 5, 2) := by decide +kernel
theorem dr_cX17_colours_220 : decode cX17_colours 220 = .ok (.ldc2_w 31, 3) := by decide +kernel
theorem dr_cX17_colours_223 : decode cX17_colours 223 = .ok (.lxor, 1) := by decide +kernel
theorem dr_cX17_colours_224 : decode cX17_colours 224 = .ok (.invokestatic 149, 3) := by decide +kernel
theorem dr_cX17_colours_227 : decode cX17_colours 227 = .ok (.istore 7, 2) := by decide +kernel
theorem dr_cX17_colours_229 : decode cX17_colours 229 = .ok (.iload 7, 2) := by decide +kernel
theorem dr_cX17_colours_231 : decode cX17_colours 231 = .ok (.iload_n 1, 1) := by decide +kernel
theorem dr_cX17_colours_232 : decode cX17_colours 232 = .ok (.if_icmp .ge 15, 3) := by decide +kernel
theorem dr_cX17_colours_247 : decode cX17_colours 247 = .ok (.iinc 3 1, 3) := by decide +kernel
theorem dr_cX17_colours_250 : decode cX17_colours 250 = .ok (.goto (-106), 3) := by decide +kernel
theorem dr_cX17_colours_235 : decode cX17_colours 235 = .ok (.aload_n 0, 1) := by decide +kernel
theorem dr_cX17_colours_236 : decode cX17_colours 236 = .ok (.getfield 212, 3) := by decide +kernel
theorem wr_7_91 : (Jvm.Cond.fieldLink "SpillForgeModel" (212 : Nat) "SpillForgeModel" "colour" "[I") ∈ gw := gw_7 91 rfl rfl
theorem dr_cX17_colours_239 : decode cX17_colours 239 = .ok (.iload 4, 2) := by decide +kernel
theorem dr_cX17_colours_241 : decode cX17_colours 241 = .ok (.iload 7, 2) := by decide +kernel
theorem dr_cX17_colours_243 : decode cX17_colours 243 = .ok (.iastore, 1) := by decide +kernel
theorem dr_cX17_colours_244 : decode cX17_colours 244 = .ok (.goto 6, 3) := by decide +kernel
theorem dr_cX17_colours_173 : decode cX17_colours 173 = .ok (.aload_n 0, 1) := by decide +kernel
theorem dr_cX17_colours_174 : decode cX17_colours 174 = .ok (.getfield 212, 3) := by decide +kernel
theorem dr_cX17_colours_177 : decode cX17_colours 177 = .ok (.iload 7, 2) := by decide +kernel
theorem dr_cX17_colours_179 : decode cX17_colours 179 = .ok (.iaload, 1) := by decide +kernel
theorem dr_cX17_colours_180 : decode cX17_colours 180 = .ok (.ifCond .lt 32, 3) := by decide +kernel
theorem dr_cX17_colours_212 : decode cX17_colours 212 = .ok (.iinc 7 1, 3) := by decide +kernel
theorem dr_cX17_colours_215 : decode cX17_colours 215 = .ok (.goto (-50), 3) := by decide +kernel
theorem dr_cX17_colours_183 : decode cX17_colours 183 = .ok (.aload_n 0, 1) := by decide +kernel
theorem dr_cX17_colours_184 : decode cX17_colours 184 = .ok (.getfield 135, 3) := by decide +kernel
theorem dr_cX17_colours_187 : decode cX17_colours 187 = .ok (.iload 4, 2) := by decide +kernel
theorem dr_cX17_colours_189 : decode cX17_colours 189 = .ok (.aaload, 1) := by decide +kernel
theorem dr_cX17_colours_190 : decode cX17_colours 190 = .ok (.iload 7, 2) := by decide +kernel
theorem dr_cX17_colours_192 : decode cX17_colours 192 = .ok (.invokestatic 145, 3) := by decide +kernel
theorem dr_cX17_colours_195 : decode cX17_colours 195 = .ok (.ifCond .eq 17, 3) := by decide +kernel
theorem dr_cX17_colours_198 : decode cX17_colours 198 = .ok (.lload 5, 2) := by decide +kernel
theorem dr_cX17_colours_200 : decode cX17_colours 200 = .ok (.lconst 1, 1) := by decide +kernel
theorem dr_cX17_colours_201 : decode cX17_colours 201 = .ok (.aload_n 0, 1) := by decide +kernel
theorem dr_cX17_colours_202 : decode cX17_colours 202 = .ok (.getfield 212, 3) := by decide +kernel
theorem dr_cX17_colours_205 : decode cX17_colours 205 = .ok (.iload 7, 2) := by decide +kernel
theorem dr_cX17_colours_207 : decode cX17_colours 207 = .ok (.iaload, 1) := by decide +kernel
theorem dr_cX17_colours_208 : decode cX17_colours 208 = .ok (.lshl, 1) := by decide +kernel
theorem dr_cX17_colours_209 : decode cX17_colours 209 = .ok (.lor, 1) := by decide +kernel
theorem dr_cX17_colours_210 : decode cX17_colours 210 = .ok (.lstore 5, 2) := by decide +kernel
theorem dr_cX17_colours_74 : decode cX17_colours 74 = .ok (.aload_n 0, 1) := by decide +kernel
theorem dr_cX17_colours_75 : decode cX17_colours 75 = .ok (.getfield 218, 3) := by decide +kernel
theorem dr_cX17_colours_78 : decode cX17_colours 78 = .ok (.iload_n 2, 1) := by decide +kernel
theorem dr_cX17_colours_79 : decode cX17_colours 79 = .ok (.iload_n 3, 1) := by decide +kernel
theorem dr_cX17_colours_80 : decode cX17_colours 80 = .ok (.iastore, 1) := by decide +kernel
theorem dr_cX17_colours_81 : decode cX17_colours 81 = .ok (.iinc 2 1, 3) := by decide +kernel
theorem dr_cX17_colours_84 : decode cX17_colours 84 = .ok (.aload_n 0, 1) := by decide +kernel
theorem dr_cX17_colours_85 : decode cX17_colours 85 = .ok (.getfield 206, 3) := by decide +kernel
theorem dr_cX17_colours_88 : decode cX17_colours 88 = .ok (.iload_n 3, 1) := by decide +kernel
theorem dr_cX17_colours_89 : decode cX17_colours 89 = .ok (.iconst 0, 1) := by decide +kernel
theorem dr_cX17_colours_90 : decode cX17_colours 90 = .ok (.bastore, 1) := by decide +kernel
theorem dr_cX17_colours_91 : decode cX17_colours 91 = .ok (.iconst 0, 1) := by decide +kernel
theorem dr_cX17_colours_92 : decode cX17_colours 92 = .ok (.istore 4, 2) := by decide +kernel
theorem dr_cX17_colours_94 : decode cX17_colours 94 = .ok (.iload 4, 2) := by decide +kernel
theorem dr_cX17_colours_96 : decode cX17_colours 96 = .ok (.sipush 2000, 3) := by decide +kernel
theorem dr_cX17_colours_99 : decode cX17_colours 99 = .ok (.if_icmp .ge 34, 3) := by decide +kernel
theorem dr_cX17_colours_133 : decode cX17_colours 133 = .ok (.aload_n 0, 1) := by decide +kernel
theorem dr_cX17_colours_134 : decode cX17_colours 134 = .ok (.iload_n 1, 1) := by decide +kernel
theorem dr_cX17_colours_135 : decode cX17_colours 135 = .ok (.invokevirtual 215, 3) := by decide +kernel
theorem dr_cX17_colours_138 : decode cX17_colours 138 = .ok (.istore_n 3, 1) := by decide +kernel
theorem dr_cX17_colours_139 : decode cX17_colours 139 = .ok (.goto (-69), 3) := by decide +kernel
theorem dr_cX17_colours_102 : decode cX17_colours 102 = .ok (.aload_n 0, 1) := by decide +kernel
theorem dr_cX17_colours_103 : decode cX17_colours 103 = .ok (.getfield 135, 3) := by decide +kernel
theorem dr_cX17_colours_106 : decode cX17_colours 106 = .ok (.iload_n 3, 1) := by decide +kernel
theorem dr_cX17_colours_107 : decode cX17_colours 107 = .ok (.aaload, 1) := by decide +kernel
theorem dr_cX17_colours_108 : decode cX17_colours 108 = .ok (.iload 4, 2) := by decide +kernel
theorem dr_cX17_colours_110 : decode cX17_colours 110 = .ok (.invokestatic 145, 3) := by decide +kernel
theorem dr_cX17_colours_113 : decode cX17_colours 113 = .ok (.ifCond .eq 14, 3) := by decide +kernel
theorem dr_cX17_colours_127 : decode cX17_colours 127 = .ok (.iinc 4 1, 3) := by decide +kernel
theorem dr_cX17_colours_130 : decode cX17_colours 130 = .ok (.goto (-36), 3) := by decide +kernel
theorem dr_cX17_colours_116 : decode cX17_colours 116 = .ok (.aload_n 0, 1) := by decide +kernel
theorem dr_cX17_colours_117 : decode cX17_colours 117 = .ok (.getfield 209, 3) := by decide +kernel
theorem dr_cX17_colours_120 : decode cX17_colours 120 = .ok (.iload 4, 2) := by decide +kernel
theorem dr_cX17_colours_122 : decode cX17_colours 122 = .ok (.dup2, 1) := by decide +kernel
theorem dr_cX17_colours_123 : decode cX17_colours 123 = .ok (.iaload, 1) := by decide +kernel
theorem dr_cX17_colours_124 : decode cX17_colours 124 = .ok (.iconst 1, 1) := by decide +kernel
theorem dr_cX17_colours_125 : decode cX17_colours 125 = .ok (.isub, 1) := by decide +kernel
theorem dr_cX17_colours_126 : decode cX17_colours 126 = .ok (.iastore, 1) := by decide +kernel
theorem dr_cX17_colours_9 : decode cX17_colours 9 = .ok (.aload_n 0, 1) := by decide +kernel
theorem dr_cX17_colours_10 : decode cX17_colours 10 = .ok (.getfield 206, 3) := by decide +kernel
theorem dr_cX17_colours_13 : decode cX17_colours 13 = .ok (.iload_n 2, 1) := by decide +kernel
theorem dr_cX17_colours_14 : decode cX17_colours 14 = .ok (.aload_n 0, 1) := by decide +kernel
theorem dr_cX17_colours_15 : decode cX17_colours 15 = .ok (.getfield 131, 3) := by decide +kernel
theorem dr_cX17_colours_18 : decode cX17_colours 18 = .ok (.iload_n 2, 1) := by decide +kernel
theorem dr_cX17_colours_19 : decode cX17_colours 19 = .ok (.baload, 1) := by decide +kernel
theorem dr_cX17_colours_20 : decode cX17_colours 20 = .ok (.bastore, 1) := by decide +kernel
theorem dr_cX17_colours_21 : decode cX17_colours 21 = .ok (.aload_n 0, 1) := by decide +kernel
theorem dr_cX17_colours_22 : decode cX17_colours 22 = .ok (.getfield 209, 3) := by decide +kernel
theorem dr_cX17_colours_25 : decode cX17_colours 25 = .ok (.iload_n 2, 1) := by decide +kernel
theorem dr_cX17_colours_26 : decode cX17_colours 26 = .ok (.aload_n 0, 1) := by decide +kernel
theorem dr_cX17_colours_27 : decode cX17_colours 27 = .ok (.getfield 131, 3) := by decide +kernel
theorem dr_cX17_colours_30 : decode cX17_colours 30 = .ok (.iload_n 2, 1) := by decide +kernel
theorem dr_cX17_colours_31 : decode cX17_colours 31 = .ok (.baload, 1) := by decide +kernel
theorem dr_cX17_colours_32 : decode cX17_colours 32 = .ok (.ifCond .eq 15, 3) := by decide +kernel
theorem dr_cX17_colours_47 : decode cX17_colours 47 = .ok (.iconst 0, 1) := by decide +kernel
theorem dr_cX17_colours_48 : decode cX17_colours 48 = .ok (.iastore, 1) := by decide +kernel
theorem dr_cX17_colours_49 : decode cX17_colours 49 = .ok (.aload_n 0, 1) := by decide +kernel
theorem dr_cX17_colours_50 : decode cX17_colours 50 = .ok (.getfield 212, 3) := by decide +kernel
theorem dr_cX17_colours_53 : decode cX17_colours 53 = .ok (.iload_n 2, 1) := by decide +kernel
theorem dr_cX17_colours_54 : decode cX17_colours 54 = .ok (.iconst (-1), 1) := by decide +kernel
theorem dr_cX17_colours_55 : decode cX17_colours 55 = .ok (.iastore, 1) := by decide +kernel
theorem dr_cX17_colours_56 : decode cX17_colours 56 = .ok (.iinc 2 1, 3) := by decide +kernel
theorem dr_cX17_colours_59 : decode cX17_colours 59 = .ok (.goto (-57), 3) := by decide +kernel
theorem dr_cX17_colours_35 : decode cX17_colours 35 = .ok (.aload_n 0, 1) := by decide +kernel
theorem dr_cX17_colours_36 : decode cX17_colours 36 = .ok (.getfield 135, 3) := by decide +kernel
theorem dr_cX17_colours_39 : decode cX17_colours 39 = .ok (.iload_n 2, 1) := by decide +kernel
theorem dr_cX17_colours_40 : decode cX17_colours 40 = .ok (.aaload, 1) := by decide +kernel
theorem dr_cX17_colours_41 : decode cX17_colours 41 = .ok (.invokestatic 202, 3) := by decide +kernel
theorem dr_cX17_colours_44 : decode cX17_colours 44 = .ok (.goto 4, 3) := by decide +kernel
abbrev ky_328156_SpillForgeModel_next : gKey := (cX17_next, 7, "SpillForgeModel", (some FieldType.int), [], "next", fun _ _ => True)
def pt_328156_SpillForgeModel_next (D : va_G) (I : FieldType → ClassId) (γ el : Nat → Nat → Nat) (P328152 : List Nat) (F328153 : Nat → va_E) (q328154 : Nat) (p328155 : Int32) : Option Value → va_W → Nat → Nat → Prop := fun r w dc ds => ∃ (o328862 : Int32), r = some (.int o328862) ∧ w = va_pl P328152 F328153 ∧ dc ≤ 0 ∧ ds ≤ 0 ∧ gB o328862 (-1) 1999 ∧ (gIp (0 ≤ o328862.toInt) (rSd (cB (F328153 (γ 9 18))) (o328862.toInt : Int).toNat)) ∧ (gIp (o328862.toInt < 0) (∀ m : Nat, ¬ rSd (cB (F328153 (γ 9 18))) m))
set_option maxRecDepth 100000 in
set_option maxHeartbeats 4000000 in
theorem ct_328156_SpillForgeModel_next (l : Launch) (hl0 : l.stackTraces = false) (D : va_G) (I : FieldType → ClassId) (γ el : Nat → Nat → Nat) (P328152 : List Nat) (F328153 : Nat → va_E) (q328154 : Nat) (p328155 : Int32) (hT : RS D I P328152 F328153 γ el) (htq328154 : rKd γ q328154 10) : CtA (gV D I) l yX17_next cX17_next 7 (some FieldType.int) 0 0 0 0 [.ref q328154, .int p328155] (va_pl P328152 F328153) (pt_328156_SpillForgeModel_next D I γ el P328152 F328153 q328154 p328155) gNA := by
  refine CtA_of hl0 (by decide) (Nat.le_of_ble_eq_true rfl) ?_
  have bp328155 := gB_any p328155
  have hm328157 : q328154 ∈ P328152 := RS_m hT htq328154 (by decide)
  obtain ⟨q328159, q328160, p328161, p328162, p328163, p328164, p328165, p328166, p328167, p328168, p328169, p328170, p328171, p328172, p328173, p328174, p328175, he328158, hB328202, ht328176, ht328177, ht328178, ht328179, ht328180, ht328181, ht328182, ht328183, ht328184, ht328185, ht328186, ht328187, ht328188, ht328189, ht328190, ht328191, ht328192, ht328193, ht328194, ht328195, ht328196, ht328197, ht328198, ht328199, hB328203⟩ := show rk_10 γ (F328153 q328154) from RS_o hT htq328154
  have hm328204 : (γ 9 18) ∈ P328152 := RS_m hT ht328190 (by decide)
  obtain ⟨f328206, he328205, bf328206⟩ := show rk_15 I (F328153 (γ 9 18)) from RS_o hT ht328190
  refine G_iconst 0 dr_cX17_next_0 (by decide +kernel) ?_
  refine G_istore_n (L' := [(2, .int 0), (0, .ref q328154), (1, .int p328155)]) dr_cX17_next_1 (Nat.le_of_ble_eq_true rfl) rfl ?_
  have hlp2_328661 : ∀ (n2_328661 : Nat) (g328661 : Int32), gB g328661 0 2000 → ((2001 : Int) - g328661.toInt).toNat < n2_328661 → G (gV D I) l (gRm 0 0 0 0) (gMA (gV D I) (pt_328156_SpillForgeModel_next D I γ el P328152 F328153 q328154 p328155) gNA 0 0) ky_328156_SpillForgeModel_next 2 [(2, .int g328661), (0, .ref q328154), (1, .int p328155)] [] (va_pl P328152 F328153) 0 0 := by
    intro n2_328661
    induction n2_328661 with
    | zero => intro g328661 bg328661 hm2_328661; exact absurd hm2_328661 (Nat.not_lt_zero _)
    | succ n2_328661 ih2_328661 =>
      intro g328661 bg328661 hm2_328661
      refine G_iload_n 0 dr_cX17_next_2 rfl ?_
      refine G_sipush 2000 dr_cX17_next_3 (by decide +kernel) ?_
      refine G_icmp_ge 36 dr_cX17_next_6 (by decide +kernel) (fun hc328663 => ?_) (fun hc328663 => ?_)
      · have r328664 : 2000 ≤ g328661.toInt := gj_leL hc328663 (show Int32.toInt 2000 = 2000 by decide)
        have bg328661' : gB g328661 2000 2000 := ⟨by omega, by omega⟩
        refine G_iconst (-1) dr_cX17_next_36 (by decide +kernel) ?_
        refine G_istore_n (L' := [(2, .int (-1)), (0, .ref q328154), (1, .int p328155)]) dr_cX17_next_37 (Nat.le_of_ble_eq_true rfl) rfl ?_
        refine G_iconst 0 dr_cX17_next_38 (by decide +kernel) ?_
        refine G_istore_n (L' := [(3, .int 0), (2, .int (-1)), (0, .ref q328154), (1, .int p328155)]) dr_cX17_next_39 (Nat.le_of_ble_eq_true rfl) rfl ?_
        have hlp40_328758 : ∀ (n40_328758 : Nat) (g328755 : Int32) (g328756 : Int32), gB g328755 0 2000 → gB g328756 (-1) 1999 → (gIp (g328756.toInt < 0) (∀ m : Nat, (m : Int) < g328755.toInt → ¬ rSd (cB (F328153 (γ 9 18))) m)) → (gIp (0 ≤ g328756.toInt) (rSd (cB (F328153 (γ 9 18))) (g328756.toInt : Int).toNat)) → ((2001 : Int) - g328755.toInt).toNat < n40_328758 → G (gV D I) l (gRm 0 0 0 0) (gMA (gV D I) (pt_328156_SpillForgeModel_next D I γ el P328152 F328153 q328154 p328155) gNA 0 0) ky_328156_SpillForgeModel_next 40 [(3, .int g328755), (2, .int g328756), (0, .ref q328154), (1, .int p328155)] [] (va_pl P328152 F328153) 0 0 := by
          intro n40_328758
          induction n40_328758 with
          | zero => intro g328755 g328756 bg328755 bg328756 x328757 x328758 hm40_328758; exact absurd hm40_328758 (Nat.not_lt_zero _)
          | succ n40_328758 ih40_328758 =>
            intro g328755 g328756 bg328755 bg328756 x328757 x328758 hm40_328758
            refine G_iload_n 0 dr_cX17_next_40 rfl ?_
            refine G_sipush 2000 dr_cX17_next_41 (by decide +kernel) ?_
            refine G_icmp_ge 171 dr_cX17_next_44 (by decide +kernel) (fun hc328760 => ?_) (fun hc328760 => ?_)
            · have r328761 : 2000 ≤ g328755.toInt := gj_leL hc328760 (show Int32.toInt 2000 = 2000 by decide)
              have bg328755' : gB g328755 2000 2000 := ⟨by omega, by omega⟩
              refine G_iload_n 1 dr_cX17_next_171 rfl ?_
              exact G_iretA dr_cX17_next_172 rfl (Nat.le_of_ble_eq_true rfl) (Nat.le_of_ble_eq_true rfl) ⟨g328756, rfl, rfl, (Nat.le_of_ble_eq_true rfl), (Nat.le_of_ble_eq_true rfl), bg328756, x328758, (fun h m hm => x328757 h m (by have := hm.1; omega) hm)⟩
            · have r328762 : g328755.toInt < 2000 := gj_nleL hc328760 (show Int32.toInt 2000 = 2000 by decide)
              have bg328755' : gB g328755 0 1999 := ⟨by omega, by omega⟩
              refine G_aload_n 2 dr_cX17_next_47 rfl ?_
              refine Gp_get 18 hm328157 he328158 dr_cX17_next_48 (gk_X17 D I) (Nat.le_of_ble_eq_true rfl) wr_7_92 rfl ?_
              refine G_iload_n 0 dr_cX17_next_51 rfl ?_
              refine Gp_zald 3 hm328204 he328205 dr_cX17_next_52 rfl (gB_in bg328755' (by decide) (by decide)) (G_nam fun z328763 hz328763 => ?_)
              have bz328763 : gB z328763 0 1 := by rw [hz328763]; exact bf328206 _
              refine G_if_ne 59 dr_cX17_next_53 (by decide +kernel) (fun hc328764 => ?_) (fun hc328764 => ?_)
              · have r328765 : z328763.toInt ≠ 0 := gj_neq hc328764 (show Int32.toInt 0 = 0 by decide)
                have bz328763' : gB z328763 1 1 := ⟨by omega, by omega⟩
                refine G_iload_n 1 dr_cX17_next_59 rfl ?_
                refine G_if_ge 68 dr_cX17_next_60 (by decide +kernel) (fun hc328766 => ?_) (fun hc328766 => ?_)
                · have r328767 : 0 ≤ g328756.toInt := gj_leL hc328766 (show Int32.toInt 0 = 0 by decide)
                  have bg328756' : gB g328756 0 1999 := ⟨by omega, by omega⟩
                  refine G_iload_n 0 dr_cX17_next_68 rfl ?_
                  refine G_bipush 100 dr_cX17_next_69 (by decide +kernel) ?_
                  refine G_icmp_lt 78 dr_cX17_next_71 (by decide +kernel) (fun hc328768 => ?_) (fun hc328768 => ?_)
                  · have r328769 : g328755.toInt < 100 := gj_lt hc328768 (show Int32.toInt 100 = 100 by decide)
                    have bg328755'' : gB g328755 0 99 := ⟨by omega, by omega⟩
                    refine G_iconst 0 dr_cX17_next_78 (by decide +kernel) ?_
                    refine G_istore (L' := [(4, .int 0), (3, .int g328755), (2, .int g328756), (0, .ref q328154), (1, .int p328155)]) dr_cX17_next_79 (Nat.le_of_ble_eq_true rfl) rfl ?_
                    refine G_iload_n 2 dr_cX17_next_81 rfl ?_
                    refine G_bipush 100 dr_cX17_next_82 (by decide +kernel) ?_
                    refine G_icmp_lt 91 dr_cX17_next_84 (by decide +kernel) (fun hc328770 => ?_) (fun hc328770 => ?_)
                    · have r328771 : g328756.toInt < 100 := gj_lt hc328770 (show Int32.toInt 100 = 100 by decide)
                      have bg328756'' : gB g328756 0 99 := ⟨by omega, by omega⟩
                      refine G_iconst 0 dr_cX17_next_91 (by decide +kernel) ?_
                      refine G_istore (L' := [(5, .int 0), (4, .int 0), (3, .int g328755), (2, .int g328756), (0, .ref q328154), (1, .int p328155)]) dr_cX17_next_92 (Nat.le_of_ble_eq_true rfl) rfl ?_
                      refine G_iload 1 dr_cX17_next_94 rfl ?_
                      refine G_if_eq 107 dr_cX17_next_96 (by decide +kernel) (fun _ => ?_) (fun hc => absurd hc (by decide))
                      refine G_aload_n 4 dr_cX17_next_107 rfl ?_
                      refine Gp_get 5 hm328157 he328158 dr_cX17_next_108 (gk_X17 D I) (Nat.le_of_ble_eq_true rfl) wr_7_79 rfl ?_
                      refine G_iload_n 2 dr_cX17_next_111 rfl ?_
                      have hm328772 : (γ 9 5) ∈ P328152 := RS_m hT ht328183 (by decide)
                      obtain ⟨f328774, he328773⟩ := show rk_17 I (F328153 (γ 9 5)) from RS_o hT ht328183
                      refine Gp_iald 0 hm328772 he328773 dr_cX17_next_112 rfl (gB_in bg328755'' (by decide) (by decide)) (G_nam fun z328775 hz328775 => ?_)
                      have bz328775 : gB z328775 (-2147483648) 2147483647 := gB_any z328775
                      refine G_i2l dr_cX17_next_113 (G_namL fun u328776 hu328776 => ?_)
                      refine G_aload_n 4 dr_cX17_next_114 rfl ?_
                      refine Gp_get 16 hm328157 he328158 dr_cX17_next_115 (gk_X17 D I) (Nat.le_of_ble_eq_true rfl) wr_7_90 rfl ?_
                      refine G_iload_n 3 dr_cX17_next_118 rfl ?_
                      have hm328777 : (γ 9 16) ∈ P328152 := RS_m hT ht328188 (by decide)
                      obtain ⟨f328779, he328778⟩ := show rk_19 I (F328153 (γ 9 16)) from RS_o hT ht328188
                      refine Gp_iald 0 hm328777 he328778 dr_cX17_next_119 rfl (gB_in bg328756'' (by decide) (by decide)) (G_nam fun z328780 hz328780 => ?_)
                      have bz328780 : gB z328780 (-2147483648) 2147483647 := gB_any z328780
                      refine G_i2l dr_cX17_next_120 (G_namL fun u328781 hu328781 => ?_)
                      refine G_lmul dr_cX17_next_121 (G_namL fun u328782 hu328782 => ?_)
                      refine G_aload_n 4 dr_cX17_next_122 rfl ?_
                      refine Gp_get 5 hm328157 he328158 dr_cX17_next_123 (gk_X17 D I) (Nat.le_of_ble_eq_true rfl) wr_7_79 rfl ?_
                      refine G_iload_n 3 dr_cX17_next_126 rfl ?_
                      refine Gp_iald 0 hm328772 he328773 dr_cX17_next_127 rfl (gB_in bg328756'' (by decide) (by decide)) (G_nam fun z328783 hz328783 => ?_)
                      have bz328783 : gB z328783 (-2147483648) 2147483647 := gB_any z328783
                      refine G_i2l dr_cX17_next_128 (G_namL fun u328784 hu328784 => ?_)
                      refine G_aload_n 4 dr_cX17_next_129 rfl ?_
                      refine Gp_get 16 hm328157 he328158 dr_cX17_next_130 (gk_X17 D I) (Nat.le_of_ble_eq_true rfl) wr_7_90 rfl ?_
                      refine G_iload_n 2 dr_cX17_next_133 rfl ?_
                      refine Gp_iald 0 hm328777 he328778 dr_cX17_next_134 rfl (gB_in bg328755'' (by decide) (by decide)) (G_nam fun z328785 hz328785 => ?_)
                      have bz328785 : gB z328785 (-2147483648) 2147483647 := gB_any z328785
                      refine G_i2l dr_cX17_next_135 (G_namL fun u328786 hu328786 => ?_)
                      refine G_lmul dr_cX17_next_136 (G_namL fun u328787 hu328787 => ?_)
                      refine G_lcmp dr_cX17_next_137 (G_nam fun z328788 hz328788 => ?_)
                      have bz328788 : gB z328788 (-1) 1 := gB_cmp hz328788
                      refine G_if_ge 145 dr_cX17_next_138 (by decide +kernel) (fun hc328789 => ?_) (fun hc328789 => ?_)
                      · have r328790 : 0 ≤ z328788.toInt := gj_leL hc328789 (show Int32.toInt 0 = 0 by decide)
                        have bz328788' : gB z328788 0 1 := ⟨by omega, by omega⟩
                        refine G_iconst 0 dr_cX17_next_145 (by decide +kernel) ?_
                        refine G_istore (L' := [(6, .int 0), (5, .int 0), (4, .int 0), (3, .int g328755), (2, .int g328756), (0, .ref q328154), (1, .int p328155)]) dr_cX17_next_146 (Nat.le_of_ble_eq_true rfl) rfl ?_
                        refine G_iload 2 dr_cX17_next_148 rfl ?_
                        refine G_if_ne 158 dr_cX17_next_150 (by decide +kernel) (fun hc => absurd hc (by decide)) (fun _ => ?_)
                        refine G_iload 1 dr_cX17_next_153 rfl ?_
                        refine G_if_ne 163 dr_cX17_next_155 (by decide +kernel) (fun hc => absurd hc (by decide)) (fun _ => ?_)
                        refine G_iload 0 dr_cX17_next_158 rfl ?_
                        refine G_if_eq 165 dr_cX17_next_160 (by decide +kernel) (fun _ => ?_) (fun hc => absurd hc (by decide))
                        obtain ⟨z328791, hz328791⟩ : ∃ z : Int32, z = g328755 + Int32.ofInt 1 := ⟨_, rfl⟩
                        have ez328791 : z328791.toInt = g328755.toInt + 1 := gI_inc hz328791 (by decide) bg328755'' (by decide) (by decide)
                        have bz328791 : gB z328791 1 100 := ⟨by omega, by omega⟩
                        refine G_iinc (L' := [(3, .int z328791), (6, .int 0), (5, .int 0), (4, .int 0), (2, .int g328756), (0, .ref q328154), (1, .int p328155)]) z328791 3 dr_cX17_next_165 rfl hz328791.symm (Nat.le_of_ble_eq_true rfl) rfl ?_
                        refine G_goto 40 dr_cX17_next_168 (by decide +kernel) ?_
                        refine G_lv (L' := [(3, .int z328791), (2, .int g328756), (0, .ref q328154), (1, .int p328155)]) [0, 4, 5, 6] rfl ?_
                        exact ih40_328758 z328791 g328756 (gB_w bz328791 (by decide) (by decide)) (gB_w bg328756'' (by decide) (by decide)) (by first | exact fun h => absurd h (by omega) | exact fun h => (by rw [ez328791]; rw [cB_of he328205]; have q := x328757; rw [cB_of he328205] at q; exact nx_0 (q h) hz328763 (by omega) rfl)) x328758 (by omega)
                      · have r328792 : z328788.toInt < 0 := gj_nleL hc328789 (show Int32.toInt 0 = 0 by decide)
                        have bz328788' : gB z328788 (-1) (-1) := ⟨by omega, by omega⟩
                        have lhc328789 := gC_cmpS hz328788 (by omega)
                        refine G_iconst 1 dr_cX17_next_141 (by decide +kernel) ?_
                        refine G_goto 146 dr_cX17_next_142 (by decide +kernel) ?_
                        refine G_istore (L' := [(6, .int 1), (5, .int 0), (4, .int 0), (3, .int g328755), (2, .int g328756), (0, .ref q328154), (1, .int p328155)]) dr_cX17_next_146 (Nat.le_of_ble_eq_true rfl) rfl ?_
                        refine G_iload 2 dr_cX17_next_148 rfl ?_
                        refine G_if_ne 158 dr_cX17_next_150 (by decide +kernel) (fun hc => absurd hc (by decide)) (fun _ => ?_)
                        refine G_iload 1 dr_cX17_next_153 rfl ?_
                        refine G_if_ne 163 dr_cX17_next_155 (by decide +kernel) (fun hc => absurd hc (by decide)) (fun _ => ?_)
                        refine G_iload 0 dr_cX17_next_158 rfl ?_
                        refine G_if_eq 165 dr_cX17_next_160 (by decide +kernel) (fun hc => absurd hc (by decide)) (fun _ => ?_)
                        refine G_iload_n 3 dr_cX17_next_163 rfl ?_
                        refine G_istore_n (L' := [(2, .int g328755), (6, .int 1), (5, .int 0), (4, .int 0), (3, .int g328755), (0, .ref q328154), (1, .int p328155)]) dr_cX17_next_164 (Nat.le_of_ble_eq_true rfl) rfl ?_
                        obtain ⟨z328793, hz328793⟩ : ∃ z : Int32, z = g328755 + Int32.ofInt 1 := ⟨_, rfl⟩
                        have ez328793 : z328793.toInt = g328755.toInt + 1 := gI_inc hz328793 (by decide) bg328755'' (by decide) (by decide)
                        have bz328793 : gB z328793 1 100 := ⟨by omega, by omega⟩
                        refine G_iinc (L' := [(3, .int z328793), (2, .int g328755), (6, .int 1), (5, .int 0), (4, .int 0), (0, .ref q328154), (1, .int p328155)]) z328793 4 dr_cX17_next_165 rfl hz328793.symm (Nat.le_of_ble_eq_true rfl) rfl ?_
                        refine G_goto 40 dr_cX17_next_168 (by decide +kernel) ?_
                        refine G_lv (L' := [(3, .int z328793), (2, .int g328755), (0, .ref q328154), (1, .int p328155)]) [0, 1, 5, 6] rfl ?_
                        exact ih40_328758 z328793 g328755 (gB_w bz328793 (by decide) (by decide)) (gB_w bg328755'' (by decide) (by decide)) (by first | exact fun h => absurd h (by omega) | exact fun h => (by rw [ez328793]; rw [cB_of he328205]; have q := x328757; rw [cB_of he328205] at q; exact nx_0 (q h) hz328763 (by omega) rfl)) (fun _ => by rw [cB_of he328205]; exact sd_of hz328763 (by omega) (by omega) (by omega)) (by omega)
                    · have r328794 : 100 ≤ g328756.toInt := gj_nlt hc328770 (show Int32.toInt 100 = 100 by decide)
                      have bg328756'' : gB g328756 100 1999 := ⟨by omega, by omega⟩
                      refine G_iconst 1 dr_cX17_next_87 (by decide +kernel) ?_
                      refine G_goto 92 dr_cX17_next_88 (by decide +kernel) ?_
                      refine G_istore (L' := [(5, .int 1), (4, .int 0), (3, .int g328755), (2, .int g328756), (0, .ref q328154), (1, .int p328155)]) dr_cX17_next_92 (Nat.le_of_ble_eq_true rfl) rfl ?_
                      refine G_iload 1 dr_cX17_next_94 rfl ?_
                      refine G_if_eq 107 dr_cX17_next_96 (by decide +kernel) (fun _ => ?_) (fun hc => absurd hc (by decide))
                      refine G_aload_n 4 dr_cX17_next_107 rfl ?_
                      refine Gp_get 5 hm328157 he328158 dr_cX17_next_108 (gk_X17 D I) (Nat.le_of_ble_eq_true rfl) wr_7_79 rfl ?_
                      refine G_iload_n 2 dr_cX17_next_111 rfl ?_
                      have hm328795 : (γ 9 5) ∈ P328152 := RS_m hT ht328183 (by decide)
                      obtain ⟨f328797, he328796⟩ := show rk_17 I (F328153 (γ 9 5)) from RS_o hT ht328183
                      refine Gp_iald 0 hm328795 he328796 dr_cX17_next_112 rfl (gB_in bg328755'' (by decide) (by decide)) (G_nam fun z328798 hz328798 => ?_)
                      have bz328798 : gB z328798 (-2147483648) 2147483647 := gB_any z328798
                      refine G_i2l dr_cX17_next_113 (G_namL fun u328799 hu328799 => ?_)
                      refine G_aload_n 4 dr_cX17_next_114 rfl ?_
                      refine Gp_get 16 hm328157 he328158 dr_cX17_next_115 (gk_X17 D I) (Nat.le_of_ble_eq_true rfl) wr_7_90 rfl ?_
                      refine G_iload_n 3 dr_cX17_next_118 rfl ?_
                      have hm328800 : (γ 9 16) ∈ P328152 := RS_m hT ht328188 (by decide)
                      obtain ⟨f328802, he328801⟩ := show rk_19 I (F328153 (γ 9 16)) from RS_o hT ht328188
                      refine Gp_iald 0 hm328800 he328801 dr_cX17_next_119 rfl (gB_in bg328756'' (by decide) (by decide)) (G_nam fun z328803 hz328803 => ?_)
                      have bz328803 : gB z328803 (-2147483648) 2147483647 := gB_any z328803
                      refine G_i2l dr_cX17_next_120 (G_namL fun u328804 hu328804 => ?_)
                      refine G_lmul dr_cX17_next_121 (G_namL fun u328805 hu328805 => ?_)
                      refine G_aload_n 4 dr_cX17_next_122 rfl ?_
                      refine Gp_get 5 hm328157 he328158 dr_cX17_next_123 (gk_X17 D I) (Nat.le_of_ble_eq_true rfl) wr_7_79 rfl ?_
                      refine G_iload_n 3 dr_cX17_next_126 rfl ?_
                      refine Gp_iald 0 hm328795 he328796 dr_cX17_next_127 rfl (gB_in bg328756'' (by decide) (by decide)) (G_nam fun z328806 hz328806 => ?_)
                      have bz328806 : gB z328806 (-2147483648) 2147483647 := gB_any z328806
                      refine G_i2l dr_cX17_next_128 (G_namL fun u328807 hu328807 => ?_)
                      refine G_aload_n 4 dr_cX17_next_129 rfl ?_
                      refine Gp_get 16 hm328157 he328158 dr_cX17_next_130 (gk_X17 D I) (Nat.le_of_ble_eq_true rfl) wr_7_90 rfl ?_
                      refine G_iload_n 2 dr_cX17_next_133 rfl ?_
                      refine Gp_iald 0 hm328800 he328801 dr_cX17_next_134 rfl (gB_in bg328755'' (by decide) (by decide)) (G_nam fun z328808 hz328808 => ?_)
                      have bz328808 : gB z328808 (-2147483648) 2147483647 := gB_any z328808
                      refine G_i2l dr_cX17_next_135 (G_namL fun u328809 hu328809 => ?_)
                      refine G_lmul dr_cX17_next_136 (G_namL fun u328810 hu328810 => ?_)
                      refine G_lcmp dr_cX17_next_137 (G_nam fun z328811 hz328811 => ?_)
                      have bz328811 : gB z328811 (-1) 1 := gB_cmp hz328811
                      refine G_if_ge 145 dr_cX17_next_138 (by decide +kernel) (fun hc328812 => ?_) (fun hc328812 => ?_)
                      · have r328813 : 0 ≤ z328811.toInt := gj_leL hc328812 (show Int32.toInt 0 = 0 by decide)
                        have bz328811' : gB z328811 0 1 := ⟨by omega, by omega⟩
                        refine G_iconst 0 dr_cX17_next_145 (by decide +kernel) ?_
                        refine G_istore (L' := [(6, .int 0), (5, .int 1), (4, .int 0), (3, .int g328755), (2, .int g328756), (0, .ref q328154), (1, .int p328155)]) dr_cX17_next_146 (Nat.le_of_ble_eq_true rfl) rfl ?_
                        refine G_iload 2 dr_cX17_next_148 rfl ?_
                        refine G_if_ne 158 dr_cX17_next_150 (by decide +kernel) (fun hc => absurd hc (by decide)) (fun _ => ?_)
                        refine G_iload 1 dr_cX17_next_153 rfl ?_
                        refine G_if_ne 163 dr_cX17_next_155 (by decide +kernel) (fun _ => ?_) (fun hc => absurd hc (by decide))
                        refine G_iload_n 3 dr_cX17_next_163 rfl ?_
                        refine G_istore_n (L' := [(2, .int g328755), (6, .int 0), (5, .int 1), (4, .int 0), (3, .int g328755), (0, .ref q328154), (1, .int p328155)]) dr_cX17_next_164 (Nat.le_of_ble_eq_true rfl) rfl ?_
                        obtain ⟨z328814, hz328814⟩ : ∃ z : Int32, z = g328755 + Int32.ofInt 1 := ⟨_, rfl⟩
                        have ez328814 : z328814.toInt = g328755.toInt + 1 := gI_inc hz328814 (by decide) bg328755'' (by decide) (by decide)
                        have bz328814 : gB z328814 1 100 := ⟨by omega, by omega⟩
                        refine G_iinc (L' := [(3, .int z328814), (2, .int g328755), (6, .int 0), (5, .int 1), (4, .int 0), (0, .ref q328154), (1, .int p328155)]) z328814 4 dr_cX17_next_165 rfl hz328814.symm (Nat.le_of_ble_eq_true rfl) rfl ?_
                        refine G_goto 40 dr_cX17_next_168 (by decide +kernel) ?_
                        refine G_lv (L' := [(3, .int z328814), (2, .int g328755), (0, .ref q328154), (1, .int p328155)]) [0, 1, 5, 6] rfl ?_
                        exact ih40_328758 z328814 g328755 (gB_w bz328814 (by decide) (by decide)) (gB_w bg328755'' (by decide) (by decide)) (by first | exact fun h => absurd h (by omega) | exact fun h => (by rw [ez328814]; rw [cB_of he328205]; have q := x328757; rw [cB_of he328205] at q; exact nx_0 (q h) hz328763 (by omega) rfl)) (fun _ => by rw [cB_of he328205]; exact sd_of hz328763 (by omega) (by omega) (by omega)) (by omega)
                      · have r328815 : z328811.toInt < 0 := gj_nleL hc328812 (show Int32.toInt 0 = 0 by decide)
                        have bz328811' : gB z328811 (-1) (-1) := ⟨by omega, by omega⟩
                        have lhc328812 := gC_cmpS hz328811 (by omega)
                        refine G_iconst 1 dr_cX17_next_141 (by decide +kernel) ?_
                        refine G_goto 146 dr_cX17_next_142 (by decide +kernel) ?_
                        refine G_istore (L' := [(6, .int 1), (5, .int 1), (4, .int 0), (3, .int g328755), (2, .int g328756), (0, .ref q328154), (1, .int p328155)]) dr_cX17_next_146 (Nat.le_of_ble_eq_true rfl) rfl ?_
                        refine G_iload 2 dr_cX17_next_148 rfl ?_
                        refine G_if_ne 158 dr_cX17_next_150 (by decide +kernel) (fun hc => absurd hc (by decide)) (fun _ => ?_)
                        refine G_iload 1 dr_cX17_next_153 rfl ?_
                        refine G_if_ne 163 dr_cX17_next_155 (by decide +kernel) (fun _ => ?_) (fun hc => absurd hc (by decide))
                        refine G_iload_n 3 dr_cX17_next_163 rfl ?_
                        refine G_istore_n (L' := [(2, .int g328755), (6, .int 1), (5, .int 1), (4, .int 0), (3, .int g328755), (0, .ref q328154), (1, .int p328155)]) dr_cX17_next_164 (Nat.le_of_ble_eq_true rfl) rfl ?_
                        obtain ⟨z328816, hz328816⟩ : ∃ z : Int32, z = g328755 + Int32.ofInt 1 := ⟨_, rfl⟩
                        have ez328816 : z328816.toInt = g328755.toInt + 1 := gI_inc hz328816 (by decide) bg328755'' (by decide) (by decide)
                        have bz328816 : gB z328816 1 100 := ⟨by omega, by omega⟩
                        refine G_iinc (L' := [(3, .int z328816), (2, .int g328755), (6, .int 1), (5, .int 1), (4, .int 0), (0, .ref q328154), (1, .int p328155)]) z328816 4 dr_cX17_next_165 rfl hz328816.symm (Nat.le_of_ble_eq_true rfl) rfl ?_
                        refine G_goto 40 dr_cX17_next_168 (by decide +kernel) ?_
                        refine G_lv (L' := [(3, .int z328816), (2, .int g328755), (0, .ref q328154), (1, .int p328155)]) [0, 1, 5, 6] rfl ?_
                        exact ih40_328758 z328816 g328755 (gB_w bz328816 (by decide) (by decide)) (gB_w bg328755'' (by decide) (by decide)) (by first | exact fun h => absurd h (by omega) | exact fun h => (by rw [ez328816]; rw [cB_of he328205]; have q := x328757; rw [cB_of he328205] at q; exact nx_0 (q h) hz328763 (by omega) rfl)) (fun _ => by rw [cB_of he328205]; exact sd_of hz328763 (by omega) (by omega) (by omega)) (by omega)
                  · have r328817 : 100 ≤ g328755.toInt := gj_nlt hc328768 (show Int32.toInt 100 = 100 by decide)
                    have bg328755'' : gB g328755 100 1999 := ⟨by omega, by omega⟩
                    refine G_iconst 1 dr_cX17_next_74 (by decide +kernel) ?_
                    refine G_goto 79 dr_cX17_next_75 (by decide +kernel) ?_
                    refine G_istore (L' := [(4, .int 1), (3, .int g328755), (2, .int g328756), (0, .ref q328154), (1, .int p328155)]) dr_cX17_next_79 (Nat.le_of_ble_eq_true rfl) rfl ?_
                    refine G_iload_n 2 dr_cX17_next_81 rfl ?_
                    refine G_bipush 100 dr_cX17_next_82 (by decide +kernel) ?_
                    refine G_icmp_lt 91 dr_cX17_next_84 (by decide +kernel) (fun hc328818 => ?_) (fun hc328818 => ?_)
                    · have r328819 : g328756.toInt < 100 := gj_lt hc328818 (show Int32.toInt 100 = 100 by decide)
                      have bg328756'' : gB g328756 0 99 := ⟨by omega, by omega⟩
                      refine G_iconst 0 dr_cX17_next_91 (by decide +kernel) ?_
                      refine G_istore (L' := [(5, .int 0), (4, .int 1), (3, .int g328755), (2, .int g328756), (0, .ref q328154), (1, .int p328155)]) dr_cX17_next_92 (Nat.le_of_ble_eq_true rfl) rfl ?_
                      refine G_iload 1 dr_cX17_next_94 rfl ?_
                      refine G_if_eq 107 dr_cX17_next_96 (by decide +kernel) (fun hc => absurd hc (by decide)) (fun _ => ?_)
                      refine G_iload 0 dr_cX17_next_99 rfl ?_
                      refine G_if_ne 107 dr_cX17_next_101 (by decide +kernel) (fun hc => absurd hc (by decide)) (fun _ => ?_)
                      refine G_goto 165 dr_cX17_next_104 (by decide +kernel) ?_
                      obtain ⟨z328820, hz328820⟩ : ∃ z : Int32, z = g328755 + Int32.ofInt 1 := ⟨_, rfl⟩
                      have ez328820 : z328820.toInt = g328755.toInt + 1 := gI_inc hz328820 (by decide) bg328755'' (by decide) (by decide)
                      have bz328820 : gB z328820 101 2000 := ⟨by omega, by omega⟩
                      refine G_iinc (L' := [(3, .int z328820), (5, .int 0), (4, .int 1), (2, .int g328756), (0, .ref q328154), (1, .int p328155)]) z328820 2 dr_cX17_next_165 rfl hz328820.symm (Nat.le_of_ble_eq_true rfl) rfl ?_
                      refine G_goto 40 dr_cX17_next_168 (by decide +kernel) ?_
                      refine G_lv (L' := [(3, .int z328820), (2, .int g328756), (0, .ref q328154), (1, .int p328155)]) [0, 3, 4, 5] rfl ?_
                      exact ih40_328758 z328820 g328756 (gB_w bz328820 (by decide) (by decide)) (gB_w bg328756'' (by decide) (by decide)) (by first | exact fun h => absurd h (by omega) | exact fun h => (by rw [ez328820]; rw [cB_of he328205]; have q := x328757; rw [cB_of he328205] at q; exact nx_0 (q h) hz328763 (by omega) rfl)) x328758 (by omega)
                    · have r328821 : 100 ≤ g328756.toInt := gj_nlt hc328818 (show Int32.toInt 100 = 100 by decide)
                      have bg328756'' : gB g328756 100 1999 := ⟨by omega, by omega⟩
                      refine G_iconst 1 dr_cX17_next_87 (by decide +kernel) ?_
                      refine G_goto 92 dr_cX17_next_88 (by decide +kernel) ?_
                      refine G_istore (L' := [(5, .int 1), (4, .int 1), (3, .int g328755), (2, .int g328756), (0, .ref q328154), (1, .int p328155)]) dr_cX17_next_92 (Nat.le_of_ble_eq_true rfl) rfl ?_
                      refine G_iload 1 dr_cX17_next_94 rfl ?_
                      refine G_if_eq 107 dr_cX17_next_96 (by decide +kernel) (fun hc => absurd hc (by decide)) (fun _ => ?_)
                      refine G_iload 0 dr_cX17_next_99 rfl ?_
                      refine G_if_ne 107 dr_cX17_next_101 (by decide +kernel) (fun _ => ?_) (fun hc => absurd hc (by decide))
                      refine G_aload_n 4 dr_cX17_next_107 rfl ?_
                      refine Gp_get 5 hm328157 he328158 dr_cX17_next_108 (gk_X17 D I) (Nat.le_of_ble_eq_true rfl) wr_7_79 rfl ?_
                      refine G_iload_n 2 dr_cX17_next_111 rfl ?_
                      have hm328822 : (γ 9 5) ∈ P328152 := RS_m hT ht328183 (by decide)
                      obtain ⟨f328824, he328823⟩ := show rk_17 I (F328153 (γ 9 5)) from RS_o hT ht328183
                      refine Gp_iald 0 hm328822 he328823 dr_cX17_next_112 rfl (gB_in bg328755'' (by decide) (by decide)) (G_nam fun z328825 hz328825 => ?_)
                      have bz328825 : gB z328825 (-2147483648) 2147483647 := gB_any z328825
                      refine G_i2l dr_cX17_next_113 (G_namL fun u328826 hu328826 => ?_)
                      refine G_aload_n 4 dr_cX17_next_114 rfl ?_
                      refine Gp_get 16 hm328157 he328158 dr_cX17_next_115 (gk_X17 D I) (Nat.le_of_ble_eq_true rfl) wr_7_90 rfl ?_
                      refine G_iload_n 3 dr_cX17_next_118 rfl ?_
                      have hm328827 : (γ 9 16) ∈ P328152 := RS_m hT ht328188 (by decide)
                      obtain ⟨f328829, he328828⟩ := show rk_19 I (F328153 (γ 9 16)) from RS_o hT ht328188
                      refine Gp_iald 0 hm328827 he328828 dr_cX17_next_119 rfl (gB_in bg328756'' (by decide) (by decide)) (G_nam fun z328830 hz328830 => ?_)
                      have bz328830 : gB z328830 (-2147483648) 2147483647 := gB_any z328830
                      refine G_i2l dr_cX17_next_120 (G_namL fun u328831 hu328831 => ?_)
                      refine G_lmul dr_cX17_next_121 (G_namL fun u328832 hu328832 => ?_)
                      refine G_aload_n 4 dr_cX17_next_122 rfl ?_
                      refine Gp_get 5 hm328157 he328158 dr_cX17_next_123 (gk_X17 D I) (Nat.le_of_ble_eq_true rfl) wr_7_79 rfl ?_
                      refine G_iload_n 3 dr_cX17_next_126 rfl ?_
                      refine Gp_iald 0 hm328822 he328823 dr_cX17_next_127 rfl (gB_in bg328756'' (by decide) (by decide)) (G_nam fun z328833 hz328833 => ?_)
                      have bz328833 : gB z328833 (-2147483648) 2147483647 := gB_any z328833
                      refine G_i2l dr_cX17_next_128 (G_namL fun u328834 hu328834 => ?_)
                      refine G_aload_n 4 dr_cX17_next_129 rfl ?_
                      refine Gp_get 16 hm328157 he328158 dr_cX17_next_130 (gk_X17 D I) (Nat.le_of_ble_eq_true rfl) wr_7_90 rfl ?_
                      refine G_iload_n 2 dr_cX17_next_133 rfl ?_
                      refine Gp_iald 0 hm328827 he328828 dr_cX17_next_134 rfl (gB_in bg328755'' (by decide) (by decide)) (G_nam fun z328835 hz328835 => ?_)
                      have bz328835 : gB z328835 (-2147483648) 2147483647 := gB_any z328835
                      refine G_i2l dr_cX17_next_135 (G_namL fun u328836 hu328836 => ?_)
                      refine G_lmul dr_cX17_next_136 (G_namL fun u328837 hu328837 => ?_)
                      refine G_lcmp dr_cX17_next_137 (G_nam fun z328838 hz328838 => ?_)
                      have bz328838 : gB z328838 (-1) 1 := gB_cmp hz328838
                      refine G_if_ge 145 dr_cX17_next_138 (by decide +kernel) (fun hc328839 => ?_) (fun hc328839 => ?_)
                      · have r328840 : 0 ≤ z328838.toInt := gj_leL hc328839 (show Int32.toInt 0 = 0 by decide)
                        have bz328838' : gB z328838 0 1 := ⟨by omega, by omega⟩
                        refine G_iconst 0 dr_cX17_next_145 (by decide +kernel) ?_
                        refine G_istore (L' := [(6, .int 0), (5, .int 1), (4, .int 1), (3, .int g328755), (2, .int g328756), (0, .ref q328154), (1, .int p328155)]) dr_cX17_next_146 (Nat.le_of_ble_eq_true rfl) rfl ?_
                        refine G_iload 2 dr_cX17_next_148 rfl ?_
                        refine G_if_ne 158 dr_cX17_next_150 (by decide +kernel) (fun _ => ?_) (fun hc => absurd hc (by decide))
                        refine G_iload 0 dr_cX17_next_158 rfl ?_
                        refine G_if_eq 165 dr_cX17_next_160 (by decide +kernel) (fun _ => ?_) (fun hc => absurd hc (by decide))
                        obtain ⟨z328841, hz328841⟩ : ∃ z : Int32, z = g328755 + Int32.ofInt 1 := ⟨_, rfl⟩
                        have ez328841 : z328841.toInt = g328755.toInt + 1 := gI_inc hz328841 (by decide) bg328755'' (by decide) (by decide)
                        have bz328841 : gB z328841 101 2000 := ⟨by omega, by omega⟩
                        refine G_iinc (L' := [(3, .int z328841), (6, .int 0), (5, .int 1), (4, .int 1), (2, .int g328756), (0, .ref q328154), (1, .int p328155)]) z328841 3 dr_cX17_next_165 rfl hz328841.symm (Nat.le_of_ble_eq_true rfl) rfl ?_
                        refine G_goto 40 dr_cX17_next_168 (by decide +kernel) ?_
                        refine G_lv (L' := [(3, .int z328841), (2, .int g328756), (0, .ref q328154), (1, .int p328155)]) [0, 4, 5, 6] rfl ?_
                        exact ih40_328758 z328841 g328756 (gB_w bz328841 (by decide) (by decide)) (gB_w bg328756'' (by decide) (by decide)) (by first | exact fun h => absurd h (by omega) | exact fun h => (by rw [ez328841]; rw [cB_of he328205]; have q := x328757; rw [cB_of he328205] at q; exact nx_0 (q h) hz328763 (by omega) rfl)) x328758 (by omega)
                      · have r328842 : z328838.toInt < 0 := gj_nleL hc328839 (show Int32.toInt 0 = 0 by decide)
                        have bz328838' : gB z328838 (-1) (-1) := ⟨by omega, by omega⟩
                        have lhc328839 := gC_cmpS hz328838 (by omega)
                        refine G_iconst 1 dr_cX17_next_141 (by decide +kernel) ?_
                        refine G_goto 146 dr_cX17_next_142 (by decide +kernel) ?_
                        refine G_istore (L' := [(6, .int 1), (5, .int 1), (4, .int 1), (3, .int g328755), (2, .int g328756), (0, .ref q328154), (1, .int p328155)]) dr_cX17_next_146 (Nat.le_of_ble_eq_true rfl) rfl ?_
                        refine G_iload 2 dr_cX17_next_148 rfl ?_
                        refine G_if_ne 158 dr_cX17_next_150 (by decide +kernel) (fun _ => ?_) (fun hc => absurd hc (by decide))
                        refine G_iload 0 dr_cX17_next_158 rfl ?_
                        refine G_if_eq 165 dr_cX17_next_160 (by decide +kernel) (fun hc => absurd hc (by decide)) (fun _ => ?_)
                        refine G_iload_n 3 dr_cX17_next_163 rfl ?_
                        refine G_istore_n (L' := [(2, .int g328755), (6, .int 1), (5, .int 1), (4, .int 1), (3, .int g328755), (0, .ref q328154), (1, .int p328155)]) dr_cX17_next_164 (Nat.le_of_ble_eq_true rfl) rfl ?_
                        obtain ⟨z328843, hz328843⟩ : ∃ z : Int32, z = g328755 + Int32.ofInt 1 := ⟨_, rfl⟩
                        have ez328843 : z328843.toInt = g328755.toInt + 1 := gI_inc hz328843 (by decide) bg328755'' (by decide) (by decide)
                        have bz328843 : gB z328843 101 2000 := ⟨by omega, by omega⟩
                        refine G_iinc (L' := [(3, .int z328843), (2, .int g328755), (6, .int 1), (5, .int 1), (4, .int 1), (0, .ref q328154), (1, .int p328155)]) z328843 4 dr_cX17_next_165 rfl hz328843.symm (Nat.le_of_ble_eq_true rfl) rfl ?_
                        refine G_goto 40 dr_cX17_next_168 (by decide +kernel) ?_
                        refine G_lv (L' := [(3, .int z328843), (2, .int g328755), (0, .ref q328154), (1, .int p328155)]) [0, 1, 5, 6] rfl ?_
                        exact ih40_328758 z328843 g328755 (gB_w bz328843 (by decide) (by decide)) (gB_w bg328755'' (by decide) (by decide)) (by first | exact fun h => absurd h (by omega) | exact fun h => (by rw [ez328843]; rw [cB_of he328205]; have q := x328757; rw [cB_of he328205] at q; exact nx_0 (q h) hz328763 (by omega) rfl)) (fun _ => by rw [cB_of he328205]; exact sd_of hz328763 (by omega) (by omega) (by omega)) (by omega)
                · have r328844 : g328756.toInt < 0 := gj_nleL hc328766 (show Int32.toInt 0 = 0 by decide)
                  have bg328756' : gB g328756 (-1) (-1) := ⟨by omega, by omega⟩
                  refine G_iload_n 0 dr_cX17_next_63 rfl ?_
                  refine G_istore_n (L' := [(2, .int g328755), (3, .int g328755), (0, .ref q328154), (1, .int p328155)]) dr_cX17_next_64 (Nat.le_of_ble_eq_true rfl) rfl ?_
                  refine G_goto 165 dr_cX17_next_65 (by decide +kernel) ?_
                  obtain ⟨z328845, hz328845⟩ : ∃ z : Int32, z = g328755 + Int32.ofInt 1 := ⟨_, rfl⟩
                  have ez328845 : z328845.toInt = g328755.toInt + 1 := gI_inc hz328845 (by decide) bg328755' (by decide) (by decide)
                  have bz328845 : gB z328845 1 2000 := ⟨by omega, by omega⟩
                  refine G_iinc (L' := [(3, .int z328845), (2, .int g328755), (0, .ref q328154), (1, .int p328155)]) z328845 1 dr_cX17_next_165 rfl hz328845.symm (Nat.le_of_ble_eq_true rfl) rfl ?_
                  refine G_goto 40 dr_cX17_next_168 (by decide +kernel) ?_
                  exact ih40_328758 z328845 g328755 (gB_w bz328845 (by decide) (by decide)) (gB_w bg328755' (by decide) (by decide)) (by first | exact fun h => absurd h (by omega) | exact fun h => (by rw [ez328845]; rw [cB_of he328205]; have q := x328757; rw [cB_of he328205] at q; exact nx_0 (q h) hz328763 (by omega) rfl)) (fun _ => by rw [cB_of he328205]; exact sd_of hz328763 (by omega) (by omega) (by omega)) (by omega)
              · have r328846 : z328763.toInt = 0 := gj_eq hc328764 (show Int32.toInt 0 = 0 by decide)
                have bz328763' : gB z328763 0 0 := ⟨by omega, by omega⟩
                refine G_goto 165 dr_cX17_next_56 (by decide +kernel) ?_
                obtain ⟨z328847, hz328847⟩ : ∃ z : Int32, z = g328755 + Int32.ofInt 1 := ⟨_, rfl⟩
                have ez328847 : z328847.toInt = g328755.toInt + 1 := gI_inc hz328847 (by decide) bg328755' (by decide) (by decide)
                have bz328847 : gB z328847 1 2000 := ⟨by omega, by omega⟩
                refine G_iinc (L' := [(3, .int z328847), (2, .int g328756), (0, .ref q328154), (1, .int p328155)]) z328847 0 dr_cX17_next_165 rfl hz328847.symm (Nat.le_of_ble_eq_true rfl) rfl ?_
                refine G_goto 40 dr_cX17_next_168 (by decide +kernel) ?_
                exact ih40_328758 z328847 g328756 (gB_w bz328847 (by decide) (by decide)) bg328756 (by first | exact fun h => absurd h (by omega) | exact fun h => (by rw [ez328847]; rw [cB_of he328205]; have q := x328757; rw [cB_of he328205] at q; exact nx_0 (q h) hz328763 (by omega) rfl)) x328758 (by omega)
        exact hlp40_328758 (((2001 : Int) - 0).toNat + 1) 0 (-1) (gB_w (gBl (show Int32.toInt 0 = 0 by decide)) (by decide) (by decide)) (gB_w (gBl (show Int32.toInt (-1) = (-1) by decide)) (by decide) (by decide)) (fun _ m hm => absurd hm (by have qa : Int32.toInt 0 = 0 := (by decide); omega)) (fun h => absurd h (by decide)) (Nat.lt_succ_self _)
      · have r328848 : g328661.toInt < 2000 := gj_nleL hc328663 (show Int32.toInt 2000 = 2000 by decide)
        have bg328661' : gB g328661 0 1999 := ⟨by omega, by omega⟩
        refine G_aload_n 1 dr_cX17_next_9 rfl ?_
        refine Gp_get 18 hm328157 he328158 dr_cX17_next_10 (gk_X17 D I) (Nat.le_of_ble_eq_true rfl) wr_7_92 rfl ?_
        refine G_iload_n 0 dr_cX17_next_13 rfl ?_
        refine Gp_zald 3 hm328204 he328205 dr_cX17_next_14 rfl (gB_in bg328661' (by decide) (by decide)) (G_nam fun z328849 hz328849 => ?_)
        have bz328849 : gB z328849 0 1 := by rw [hz328849]; exact bf328206 _
        refine G_if_eq 30 dr_cX17_next_15 (by decide +kernel) (fun hc328850 => ?_) (fun hc328850 => ?_)
        · have r328851 : z328849.toInt = 0 := gj_eq hc328850 (show Int32.toInt 0 = 0 by decide)
          have bz328849' : gB z328849 0 0 := ⟨by omega, by omega⟩
          obtain ⟨z328852, hz328852⟩ : ∃ z : Int32, z = g328661 + Int32.ofInt 1 := ⟨_, rfl⟩
          have ez328852 : z328852.toInt = g328661.toInt + 1 := gI_inc hz328852 (by decide) bg328661' (by decide) (by decide)
          have bz328852 : gB z328852 1 2000 := ⟨by omega, by omega⟩
          refine G_iinc (L' := [(2, .int z328852), (0, .ref q328154), (1, .int p328155)]) z328852 0 dr_cX17_next_30 rfl hz328852.symm (Nat.le_of_ble_eq_true rfl) rfl ?_
          refine G_goto 2 dr_cX17_next_33 (by decide +kernel) ?_
          exact ih2_328661 z328852 (gB_w bz328852 (by decide) (by decide)) (by omega)
        · have r328853 : z328849.toInt ≠ 0 := gj_neq hc328850 (show Int32.toInt 0 = 0 by decide)
          have bz328849' : gB z328849 1 1 := ⟨by omega, by omega⟩
          refine G_aload_n 1 dr_cX17_next_18 rfl ?_
          refine Gp_get 16 hm328157 he328158 dr_cX17_next_19 (gk_X17 D I) (Nat.le_of_ble_eq_true rfl) wr_7_90 rfl ?_
          refine G_iload_n 0 dr_cX17_next_22 rfl ?_
          have hm328854 : (γ 9 16) ∈ P328152 := RS_m hT ht328188 (by decide)
          obtain ⟨f328856, he328855⟩ := show rk_19 I (F328153 (γ 9 16)) from RS_o hT ht328188
          refine Gp_iald 0 hm328854 he328855 dr_cX17_next_23 rfl (gB_in bg328661' (by decide) (by decide)) (G_nam fun z328857 hz328857 => ?_)
          have bz328857 : gB z328857 (-2147483648) 2147483647 := gB_any z328857
          refine G_iload_n 2 dr_cX17_next_24 rfl ?_
          refine G_icmp_ge 30 dr_cX17_next_25 (by decide +kernel) (fun hc328858 => ?_) (fun hc328858 => ?_)
          · have r328859 : p328155.toInt ≤ z328857.toInt := gC_le hc328858
            obtain ⟨z328860, hz328860⟩ : ∃ z : Int32, z = g328661 + Int32.ofInt 1 := ⟨_, rfl⟩
            have ez328860 : z328860.toInt = g328661.toInt + 1 := gI_inc hz328860 (by decide) bg328661' (by decide) (by decide)
            have bz328860 : gB z328860 1 2000 := ⟨by omega, by omega⟩
            refine G_iinc (L' := [(2, .int z328860), (0, .ref q328154), (1, .int p328155)]) z328860 0 dr_cX17_next_30 rfl hz328860.symm (Nat.le_of_ble_eq_true rfl) rfl ?_
            refine G_goto 2 dr_cX17_next_33 (by decide +kernel) ?_
            exact ih2_328661 z328860 (gB_w bz328860 (by decide) (by decide)) (by omega)
          · have r328861 : z328857.toInt < p328155.toInt := gC_nle hc328858
            have bz328857' : gB z328857 (-2147483648) 2147483646 := ⟨by omega, by omega⟩
            have bp328155' : gB p328155 (-2147483647) 2147483647 := ⟨by omega, by omega⟩
            refine G_iload_n 0 dr_cX17_next_28 rfl ?_
            exact G_iretA dr_cX17_next_29 rfl (Nat.le_of_ble_eq_true rfl) (Nat.le_of_ble_eq_true rfl) ⟨g328661, rfl, rfl, (Nat.le_of_ble_eq_true rfl), (Nat.le_of_ble_eq_true rfl), (gB_w bg328661' (by decide) (by decide)), (fun _ => by rw [cB_of he328205]; exact sd_of hz328849 (by omega) (by omega) (by omega)), (fun h => absurd h (by omega))⟩
  exact hlp2_328661 (((2001 : Int) - 0).toNat + 1) 0 (gB_w (gBl (show Int32.toInt 0 = 0 by decide)) (by decide) (by decide)) (Nat.lt_succ_self _)
abbrev ky_327366_SpillForgeModel_colours : gKey := (cX17_colours, 8, "SpillForgeModel", (some FieldType.int), [], "colours", fun _ _ => True)
def pt_327366_SpillForgeModel_colours (D : va_G) (I : FieldType → ClassId) (γ el : Nat → Nat → Nat) (P327362 : List Nat) (F327363 : Nat → va_E) (q327364 : Nat) (p327365 : Int32) : Option Value → va_W → Nat → Nat → Prop := fun r w dc ds => ∃ (F335833 : Nat → va_E) (o335832 : Int32), r = some (.int o335832) ∧ w = va_pl P327362 F335833 ∧ RS D I P327362 F335833 γ el ∧ rStr γ [] F327363 F335833 ∧ dc ≤ 0 ∧ ds ≤ 0 ∧ gB o335832 0 2000 ∧ (gIp (o335832.toInt = 0) (∀ m : Nat, rSd (cB (F335833 (γ 9 3))) m → 0 ≤ (cB (F335833 (γ 9 17)) m).toInt)) ∧ (F335833 q327364 = F327363 q327364) ∧ (F335833 (γ 9 3) = F327363 (γ 9 3))
set_option maxRecDepth 100000 in
set_option maxHeartbeats 4000000 in
theorem ct_327366_SpillForgeModel_colours (l : Launch) (hl0 : l.stackTraces = false) (D : va_G) (I : FieldType → ClassId) (γ el : Nat → Nat → Nat) (P327362 : List Nat) (F327363 : Nat → va_E) (q327364 : Nat) (p327365 : Int32) (hT : RS D I P327362 F327363 γ el) (htq327364 : rKd γ q327364 10) (bp327365 : gB p327365 1 32) : CtA (gV D I) l yX17_colours cX17_colours 8 (some FieldType.int) 2 43 0 0 [.ref q327364, .int p327365] (va_pl P327362 F327363) (pt_327366_SpillForgeModel_colours D I γ el P327362 F327363 q327364 p327365) gNA := by
  refine CtA_of hl0 (by decide) (Nat.le_of_ble_eq_true rfl) ?_
  have hm327367 : q327364 ∈ P327362 := RS_m hT htq327364 (by decide)
  refine rk10_e (show rk_10 γ (F327363 q327364) from RS_o hT htq327364) (fun q327369 q327370 p327371 p327372 p327373 p327374 p327375 p327376 p327377 p327378 p327379 p327380 p327381 p327382 p327383 p327384 p327385 he327368 hB327412 ht327386 ht327387 ht327388 ht327389 ht327390 ht327391 ht327392 ht327393 ht327394 ht327395 ht327396 ht327397 ht327398 ht327399 ht327400 ht327401 ht327402 ht327403 ht327404 ht327405 ht327406 ht327407 ht327408 ht327409 hB327413 => ?_)
  have hm327414 : (γ 9 3) ∈ P327362 := RS_m hT ht327391 (by decide)
  obtain ⟨f327416, he327415, bf327416⟩ := show rk_14 I (F327363 (γ 9 3)) from RS_o hT ht327391
  have hm327417 : (γ 9 18) ∈ P327362 := RS_m hT ht327400 (by decide)
  obtain ⟨f327419, he327418, bf327419⟩ := show rk_15 I (F327363 (γ 9 18)) from RS_o hT ht327400
  have hm327420 : (γ 9 15) ∈ P327362 := RS_m hT ht327397 (by decide)
  obtain ⟨f327422, he327421, bf327422⟩ := show rk_18 I (F327363 (γ 9 15)) from RS_o hT ht327397
  have hm327423 : (γ 9 17) ∈ P327362 := RS_m hT ht327399 (by decide)
  obtain ⟨f327425, he327424, bf327425⟩ := show rk_20 I (F327363 (γ 9 17)) from RS_o hT ht327399
  refine G_iconst 0 dr_cX17_colours_0 (by decide +kernel) ?_
  refine G_istore_n (L' := [(2, .int 0), (0, .ref q327364), (1, .int p327365)]) dr_cX17_colours_1 (Nat.le_of_ble_eq_true rfl) rfl ?_
  have hlp2_334591 : ∀ (n2_334591 : Nat) (F334586 : Nat → va_E) (g334585 : Int32), gB g334585 0 2000 → RS D I P327362 F334586 γ el → rStr γ [] F327363 F334586 → (∀ m : Nat, (m : Int) < g334585.toInt → rSd (cB (F334586 (γ 9 3))) m → rSd (cB (F334586 (γ 9 18))) m) → (F334586 q327364 = F327363 q327364) → (F334586 (γ 9 3) = F327363 (γ 9 3)) → ((2001 : Int) - g334585.toInt).toNat < n2_334591 → G (gV D I) l (gRm 2 43 0 0) (gMA (gV D I) (pt_327366_SpillForgeModel_colours D I γ el P327362 F327363 q327364 p327365) gNA 0 0) ky_327366_SpillForgeModel_colours 2 [(2, .int g334585), (0, .ref q327364), (1, .int p327365)] [] (va_pl P327362 F334586) 0 0 := by
    intro n2_334591
    induction n2_334591 with
    | zero => intro F334586 g334585 bg334585 hT334587 hs334588 x334589 x334590 x334591 hm2_334591; exact absurd hm2_334591 (Nat.not_lt_zero _)
    | succ n2_334591 ih2_334591 =>
      intro F334586 g334585 bg334585 hT334587 hs334588 x334589 x334590 x334591 hm2_334591
      have hs334593 : rStr γ [] F327363 F334586 := fun b h0 hb hw => (hs334588 b h0 hb hw).trans ((rStr_rf (γ := γ) (W := []) (F := F327363)) b h0 hb hw).symm
      have hs334594 : rStr γ [] F327363 F334586 := rStr_tr (rStr_rf (γ := γ) (W := []) (F := F327363)) hs334593
      have he334595 : F334586 q327364 = .inr (22, [.ref (γ 9 0), .ref (γ 9 1), .ref (γ 9 2), .ref (γ 9 3), .ref (γ 9 4), .ref (γ 9 5), .ref (γ 9 6), .ref (γ 9 7), .ref (γ 9 8), .int p327371, .int p327372, .int p327373, .int p327374, .int p327375, .int p327376, .ref (γ 9 15), .ref (γ 9 16), .ref (γ 9 17), .ref (γ 9 18), .ref (γ 9 19), .ref (γ 9 20), .ref (γ 9 21), .ref (γ 9 22), .int p327377, .int p327378, .int p327379, .int p327380, .int p327381, .ref q327369, .ref (γ 9 29), .int p327382, .ref (γ 9 31), .int p327383, .int p327384, .int p327385, .ref q327370]) := x334590.trans he327368
      have hm334596 : q327364 ∈ P327362 := RS_m hT334587 htq327364 (by decide)
      have he334597 : F334586 (γ 9 3) = .inl (I .boolean, 2000, .inl f327416) := x334591.trans he327415
      have hm334598 : (γ 9 3) ∈ P327362 := RS_m hT334587 ht327391 (by decide)
      have hm334599 : (γ 9 18) ∈ P327362 := RS_m hT334587 ht327400 (by decide)
      obtain ⟨f334601, he334600, bf334601⟩ := show rk_15 I (F334586 (γ 9 18)) from RS_o hT334587 ht327400
      have hm334602 : (γ 9 15) ∈ P327362 := RS_m hT334587 ht327397 (by decide)
      obtain ⟨f334604, he334603, bf334604⟩ := show rk_18 I (F334586 (γ 9 15)) from RS_o hT334587 ht327397
      have hm334605 : (γ 9 17) ∈ P327362 := RS_m hT334587 ht327399 (by decide)
      obtain ⟨f334607, he334606, bf334607⟩ := show rk_20 I (F334586 (γ 9 17)) from RS_o hT334587 ht327399
      have cq334608 := x334589
      rw [cB_of he334597, cB_of he334600] at cq334608
      refine G_iload_n 0 dr_cX17_colours_2 rfl ?_
      refine G_sipush 2000 dr_cX17_colours_3 (by decide +kernel) ?_
      refine G_icmp_ge 62 dr_cX17_colours_6 (by decide +kernel) (fun hc334609 => ?_) (fun hc334609 => ?_)
      · have r334610 : 2000 ≤ g334585.toInt := gj_leL hc334609 (show Int32.toInt 2000 = 2000 by decide)
        have bg334585' : gB g334585 2000 2000 := ⟨by omega, by omega⟩
        refine G_iconst 0 dr_cX17_colours_62 (by decide +kernel) ?_
        refine G_istore_n (L' := [(2, .int 0), (0, .ref q327364), (1, .int p327365)]) dr_cX17_colours_63 (Nat.le_of_ble_eq_true rfl) rfl ?_
        refine G_aload_n 1 dr_cX17_colours_64 rfl ?_
        refine G_iload_n 2 dr_cX17_colours_65 rfl ?_
        refine Gw_callV (As := [.int p327365]) (gV_ok D I) (ct_328156_SpillForgeModel_next l hl0 D I γ el P327362 F334586 q327364 p327365 hT334587 htq327364) dr_cX17_colours_66 ⟨wr_11_47, wr_1_14, wr_11_50, by decide, rfl, (Nat.le_of_ble_eq_true rfl), (Nat.le_of_ble_eq_true rfl)⟩ wr_11_49 wr_p_107 hm334596 he334595 rfl (show 0 + 0 ≤ 0 by first | omega | decide) (show 0 + 0 ≤ 0 by first | omega | decide) (Nat.le_of_ble_eq_true rfl) (fun r334614 w334615 dc334611 ds334612 hp334613 => ?_) (fun _ _ _ _ _ z => z.elim)
        obtain ⟨o334616, rfl, rfl, hdc, hds, bo334616, x334617, x334618⟩ := hp334613
        change G _ _ _ _ _ _ _ (.int o334616 :: _) _ _ _
        refine G_widen (cs' := 0) (sl' := 0) (by omega) (by omega) ?_
        refine G_istore_n (L' := [(3, .int o334616), (2, .int 0), (0, .ref q327364), (1, .int p327365)]) dr_cX17_colours_69 (Nat.le_of_ble_eq_true rfl) rfl ?_
        have hlp70_335176 : ∀ (n70_335176 : Nat) (F335168 : Nat → va_E) (g335166 : Int32) (g335167 : Int32), gB g335166 (-1) 1999 → gB g335167 0 2000 → RS D I P327362 F335168 γ el → rStr γ [] F327363 F335168 → (∀ m : Nat, rSd (cB (F335168 (γ 9 3))) m → rSd (cB (F335168 (γ 9 18))) m ∨ ∃ i : Nat, (i : Int) < g335167.toInt ∧ (cB (F335168 (γ 9 15)) i).toInt = m) → (rcn (cB (F335168 (γ 9 18))) 2000 + (g335167.toInt : Int).toNat ≤ 2000) → (gIp (0 ≤ g335166.toInt) (rSd (cB (F335168 (γ 9 18))) (g335166.toInt : Int).toNat)) → (gIp (g335166.toInt < 0) (∀ m : Nat, ¬ rSd (cB (F335168 (γ 9 18))) m)) → (F335168 q327364 = F327363 q327364) → (F335168 (γ 9 3) = F327363 (γ 9 3)) → (rcn (cB (F335168 (γ 9 18))) 2000) < n70_335176 → G (gV D I) l (gRm 2 43 0 0) (gMA (gV D I) (pt_327366_SpillForgeModel_colours D I γ el P327362 F327363 q327364 p327365) gNA 0 0) ky_327366_SpillForgeModel_colours 70 [(3, .int g335166), (2, .int g335167), (0, .ref q327364), (1, .int p327365)] [] (va_pl P327362 F335168) 0 0 := by
          intro n70_335176
          induction n70_335176 with
          | zero => intro F335168 g335166 g335167 bg335166 bg335167 hT335169 hs335170 x335171 x335172 x335173 x335174 x335175 x335176 hm70_335176; exact absurd hm70_335176 (Nat.not_lt_zero _)
          | succ n70_335176 ih70_335176 =>
            intro F335168 g335166 g335167 bg335166 bg335167 hT335169 hs335170 x335171 x335172 x335173 x335174 x335175 x335176 hm70_335176
            have hs335178 : rStr γ [] F334586 F335168 := fun b h0 hb hw => (hs335170 b h0 hb hw).trans (hs334588 b h0 hb hw).symm
            have hs335179 : rStr γ [] F327363 F335168 := rStr_tr hs334588 hs335178
            have he335180 : F335168 q327364 = .inr (22, [.ref (γ 9 0), .ref (γ 9 1), .ref (γ 9 2), .ref (γ 9 3), .ref (γ 9 4), .ref (γ 9 5), .ref (γ 9 6), .ref (γ 9 7), .ref (γ 9 8), .int p327371, .int p327372, .int p327373, .int p327374, .int p327375, .int p327376, .ref (γ 9 15), .ref (γ 9 16), .ref (γ 9 17), .ref (γ 9 18), .ref (γ 9 19), .ref (γ 9 20), .ref (γ 9 21), .ref (γ 9 22), .int p327377, .int p327378, .int p327379, .int p327380, .int p327381, .ref q327369, .ref (γ 9 29), .int p327382, .ref (γ 9 31), .int p327383, .int p327384, .int p327385, .ref q327370]) := x335175.trans he327368
            have hm335181 : q327364 ∈ P327362 := RS_m hT335169 htq327364 (by decide)
            have he335182 : F335168 (γ 9 3) = .inl (I .boolean, 2000, .inl f327416) := x335176.trans he327415
            have hm335183 : (γ 9 3) ∈ P327362 := RS_m hT335169 ht327391 (by decide)
            have hm335184 : (γ 9 18) ∈ P327362 := RS_m hT335169 ht327400 (by decide)
            obtain ⟨f335186, he335185, bf335186⟩ := show rk_15 I (F335168 (γ 9 18)) from RS_o hT335169 ht327400
            have hm335187 : (γ 9 15) ∈ P327362 := RS_m hT335169 ht327397 (by decide)
            obtain ⟨f335189, he335188, bf335189⟩ := show rk_18 I (F335168 (γ 9 15)) from RS_o hT335169 ht327397
            have hm335190 : (γ 9 17) ∈ P327362 := RS_m hT335169 ht327399 (by decide)
            obtain ⟨f335192, he335191, bf335192⟩ := show rk_20 I (F335168 (γ 9 17)) from RS_o hT335169 ht327399
            have cq335193 := x335171
            rw [cB_of he335182, cB_of he335185, cB_of he335188] at cq335193
            have cq335194 := x335172
            rw [cB_of he335185] at cq335194
            have cq335195 := x335173
            rw [cB_of he335185] at cq335195
            have cq335196 := x335174
            rw [cB_of he335185] at cq335196
            refine G_iload_n 0 dr_cX17_colours_70 rfl ?_
            refine G_if_lt 142 dr_cX17_colours_71 (by decide +kernel) (fun hc335197 => ?_) (fun hc335197 => ?_)
            · have r335198 : g335166.toInt < 0 := gj_lt hc335197 (show Int32.toInt 0 = 0 by decide)
              have bg335166' : gB g335166 (-1) (-1) := ⟨by omega, by omega⟩
              refine G_iconst 0 dr_cX17_colours_142 (by decide +kernel) ?_
              refine G_istore_n (L' := [(3, .int 0), (2, .int g335167), (0, .ref q327364), (1, .int p327365)]) dr_cX17_colours_143 (Nat.le_of_ble_eq_true rfl) rfl ?_
              have hlp144_335368 : ∀ (n144_335368 : Nat) (F335362 : Nat → va_E) (g335360 : Int32) (g335361 : Int32), gB g335360 0 2000 → gB g335361 0 2000 → RS D I P327362 F335362 γ el → rStr γ [] F327363 F335362 → (gIp (g335360.toInt = 0) (∀ m : Nat, rSd (cB (F335362 (γ 9 3))) m → (∃ i : Nat, (i : Int) < g335361.toInt ∧ (cB (F335362 (γ 9 15)) i).toInt = m) ∨ 0 ≤ (cB (F335362 (γ 9 17)) m).toInt)) → (g335360.toInt + g335361.toInt ≤ 2000) → (F335362 q327364 = F327363 q327364) → (F335362 (γ 9 3) = F327363 (γ 9 3)) → ((g335361.toInt : Int) - (-1)).toNat < n144_335368 → G (gV D I) l (gRm 2 43 0 0) (gMA (gV D I) (pt_327366_SpillForgeModel_colours D I γ el P327362 F327363 q327364 p327365) gNA 0 0) ky_327366_SpillForgeModel_colours 144 [(3, .int g335360), (2, .int g335361), (0, .ref q327364), (1, .int p327365)] [] (va_pl P327362 F335362) 0 0 := by
                intro n144_335368
                induction n144_335368 with
                | zero => intro F335362 g335360 g335361 bg335360 bg335361 hT335363 hs335364 x335365 x335366 x335367 x335368 hm144_335368; exact absurd hm144_335368 (Nat.not_lt_zero _)
                | succ n144_335368 ih144_335368 =>
                  intro F335362 g335360 g335361 bg335360 bg335361 hT335363 hs335364 x335365 x335366 x335367 x335368 hm144_335368
                  have hs335370 : rStr γ [] F335168 F335362 := fun b h0 hb hw => (hs335364 b h0 hb hw).trans (hs335170 b h0 hb hw).symm
                  have hs335371 : rStr γ [] F327363 F335362 := rStr_tr hs335170 hs335370
                  have he335372 : F335362 q327364 = .inr (22, [.ref (γ 9 0), .ref (γ 9 1), .ref (γ 9 2), .ref (γ 9 3), .ref (γ 9 4), .ref (γ 9 5), .ref (γ 9 6), .ref (γ 9 7), .ref (γ 9 8), .int p327371, .int p327372, .int p327373, .int p327374, .int p327375, .int p327376, .ref (γ 9 15), .ref (γ 9 16), .ref (γ 9 17), .ref (γ 9 18), .ref (γ 9 19), .ref (γ 9 20), .ref (γ 9 21), .ref (γ 9 22), .int p327377, .int p327378, .int p327379, .int p327380, .int p327381, .ref q327369, .ref (γ 9 29), .int p327382, .ref (γ 9 31), .int p327383, .int p327384, .int p327385, .ref q327370]) := x335367.trans he327368
                  have hm335373 : q327364 ∈ P327362 := RS_m hT335363 htq327364 (by decide)
                  have he335374 : F335362 (γ 9 3) = .inl (I .boolean, 2000, .inl f327416) := x335368.trans he327415
                  have hm335375 : (γ 9 3) ∈ P327362 := RS_m hT335363 ht327391 (by decide)
                  have hm335376 : (γ 9 18) ∈ P327362 := RS_m hT335363 ht327400 (by decide)
                  obtain ⟨f335378, he335377, bf335378⟩ := show rk_15 I (F335362 (γ 9 18)) from RS_o hT335363 ht327400
                  have hm335379 : (γ 9 15) ∈ P327362 := RS_m hT335363 ht327397 (by decide)
                  obtain ⟨f335381, he335380, bf335381⟩ := show rk_18 I (F335362 (γ 9 15)) from RS_o hT335363 ht327397
                  have hm335382 : (γ 9 17) ∈ P327362 := RS_m hT335363 ht327399 (by decide)
                  obtain ⟨f335384, he335383, bf335384⟩ := show rk_20 I (F335362 (γ 9 17)) from RS_o hT335363 ht327399
                  have cq335385 := x335365
                  rw [cB_of he335374, cB_of he335380, cB_of he335383] at cq335385
                  refine G_iload_n 1 dr_cX17_colours_144 rfl ?_
                  refine G_if_le 253 dr_cX17_colours_145 (by decide +kernel) (fun hc335386 => ?_) (fun hc335386 => ?_)
                  · have r335387 : g335361.toInt ≤ 0 := gj_le hc335386 (show Int32.toInt 0 = 0 by decide)
                    have bg335361' : gB g335361 0 0 := ⟨by omega, by omega⟩
                    refine G_iload_n 0 dr_cX17_colours_253 rfl ?_
                    exact G_iretA dr_cX17_colours_254 rfl (Nat.le_of_ble_eq_true rfl) (Nat.le_of_ble_eq_true rfl) ⟨F335362, g335360, rfl, rfl, hT335363, hs335364, (Nat.le_of_ble_eq_true rfl), (Nat.le_of_ble_eq_true rfl), bg335360, (fun h0 m s => by rw [cB_of he335383]; rw [cB_of he335374] at s; exact (cq335385 h0 m s).resolve_left (fun ⟨i, hi, _⟩ => absurd hi (by omega))), x335367, x335368⟩
                  · have r335388 : 0 < g335361.toInt := gj_nle hc335386 (show Int32.toInt 0 = 0 by decide)
                    have bg335361' : gB g335361 1 2000 := ⟨by omega, by omega⟩
                    obtain ⟨z335389, hz335389⟩ : ∃ z : Int32, z = g335361 + Int32.ofInt (-1) := ⟨_, rfl⟩
                    have ez335389 : z335389.toInt = g335361.toInt + (-1) := gI_inc hz335389 (by decide) bg335361' (by decide) (by decide)
                    have bz335389 : gB z335389 0 1999 := ⟨by omega, by omega⟩
                    refine G_iinc (L' := [(2, .int z335389), (3, .int g335360), (0, .ref q327364), (1, .int p327365)]) z335389 1 dr_cX17_colours_148 rfl hz335389.symm (Nat.le_of_ble_eq_true rfl) rfl ?_
                    refine G_aload_n 2 dr_cX17_colours_151 rfl ?_
                    refine Gp_get 15 hm335373 he335372 dr_cX17_colours_152 (gk_X17 D I) (Nat.le_of_ble_eq_true rfl) wr_7_89 rfl ?_
                    refine G_iload_n 0 dr_cX17_colours_155 rfl ?_
                    refine Gp_iald 0 hm335379 he335380 dr_cX17_colours_156 rfl (gB_in bz335389 (by decide) (by decide)) (G_nam fun z335390 hz335390 => ?_)
                    have bz335390 : gB z335390 0 1999 := by rw [hz335390]; exact bf335381 _
                    refine G_istore (L' := [(4, .int z335390), (2, .int z335389), (3, .int g335360), (0, .ref q327364), (1, .int p327365)]) dr_cX17_colours_157 (Nat.le_of_ble_eq_true rfl) rfl ?_
                    refine G_lconst 0 dr_cX17_colours_159 rfl ?_
                    refine G_lstore (L' := [(5, .long 0), (4, .int z335390), (2, .int z335389), (3, .int g335360), (0, .ref q327364), (1, .int p327365)]) dr_cX17_colours_160 (Nat.le_of_ble_eq_true rfl) rfl ?_
                    refine G_iconst 0 dr_cX17_colours_162 (by decide +kernel) ?_
                    refine G_istore (L' := [(7, .int 0), (5, .long 0), (4, .int z335390), (2, .int z335389), (3, .int g335360), (0, .ref q327364), (1, .int p327365)]) dr_cX17_colours_163 (Nat.le_of_ble_eq_true rfl) rfl ?_
                    have hlp165_335460 : ∀ (n165_335460 : Nat) (g335458 : Int32) (gl335459 : Int64), gB g335458 0 2000 → lb_Q gl335459 (32) → ((2001 : Int) - g335458.toInt).toNat < n165_335460 → G (gV D I) l (gRm 2 43 0 0) (gMA (gV D I) (pt_327366_SpillForgeModel_colours D I γ el P327362 F327363 q327364 p327365) gNA 0 0) ky_327366_SpillForgeModel_colours 165 [(7, .int g335458), (5, .long gl335459), (4, .int z335390), (2, .int z335389), (3, .int g335360), (0, .ref q327364), (1, .int p327365)] [] (va_pl P327362 F335362) 0 0 := by
                      intro n165_335460
                      induction n165_335460 with
                      | zero => intro g335458 gl335459 bg335458 x335460 hm165_335460; exact absurd hm165_335460 (Nat.not_lt_zero _)
                      | succ n165_335460 ih165_335460 =>
                        intro g335458 gl335459 bg335458 x335460 hm165_335460
                        refine G_iload 0 dr_cX17_colours_165 rfl ?_
                        refine G_sipush 2000 dr_cX17_colours_167 (by decide +kernel) ?_
                        refine G_icmp_ge 218 dr_cX17_colours_170 (by decide +kernel) (fun hc335462 => ?_) (fun hc335462 => ?_)
                        · have r335463 : 2000 ≤ g335458.toInt := gj_leL hc335462 (show Int32.toInt 2000 = 2000 by decide)
                          have bg335458' : gB g335458 2000 2000 := ⟨by omega, by omega⟩
                          refine G_lload 1 dr_cX17_colours_218 rfl ?_
                          refine G_ldc2 (-1) dr_cX17_colours_220 wr_10_184 ?_
                          refine G_lxor dr_cX17_colours_223 (G_namL fun u335464 hu335464 => ?_)
                          refine Gw_callS (As := [.long u335464]) (gV_ok D I) (nzc_Long_numberOfTrailingZeros l hl0 D I P327362 F335362 u335464) dr_cX17_colours_224 ⟨wr_10_237, wr_1_31, wr_10_239, by decide, rfl, (Nat.le_of_ble_eq_true rfl), (Nat.le_of_ble_eq_true rfl)⟩ wr_10_238 (show 0 + 0 ≤ 0 by first | omega | decide) (show 0 + 0 ≤ 0 by first | omega | decide) (Nat.le_of_ble_eq_true rfl) (fun r335468 w335469 dc335465 ds335466 hp335467 => ?_) (fun _ _ _ _ _ z => z.elim)
                          obtain ⟨o335471, rfl, rfl, hdc, hds, hO335470⟩ := hp335467
                          have hO335470 := hO335470 (nz_x hu335464 x335460)
                          have bo335471 : gB o335471 0 63 := ⟨hO335470.1, hO335470.2.1⟩
                          change G _ _ _ _ _ _ _ (.int o335471 :: _) _ _ _
                          refine G_widen (cs' := 0) (sl' := 0) (by omega) (by omega) ?_
                          refine G_istore (L' := [(7, .int o335471), (5, .long gl335459), (4, .int z335390), (2, .int z335389), (3, .int g335360), (0, .ref q327364), (1, .int p327365)]) dr_cX17_colours_227 (Nat.le_of_ble_eq_true rfl) rfl ?_
                          refine G_iload 0 dr_cX17_colours_229 rfl ?_
                          refine G_iload_n 6 dr_cX17_colours_231 rfl ?_
                          refine G_icmp_ge 247 dr_cX17_colours_232 (by decide +kernel) (fun hc335472 => ?_) (fun hc335472 => ?_)
                          · have r335473 : p327365.toInt ≤ o335471.toInt := gC_le hc335472
                            have bo335471' : gB o335471 1 63 := ⟨by omega, by omega⟩
                            have bg335360' : gB g335360 0 1999 := ⟨by omega, by omega⟩
                            obtain ⟨z335474, hz335474⟩ : ∃ z : Int32, z = g335360 + Int32.ofInt 1 := ⟨_, rfl⟩
                            have ez335474 : z335474.toInt = g335360.toInt + 1 := gI_inc hz335474 (by decide) bg335360' (by decide) (by decide)
                            have bz335474 : gB z335474 1 2000 := ⟨by omega, by omega⟩
                            refine G_iinc (L' := [(3, .int z335474), (7, .int o335471), (5, .long gl335459), (4, .int z335390), (2, .int z335389), (0, .ref q327364), (1, .int p327365)]) z335474 4 dr_cX17_colours_247 rfl hz335474.symm (Nat.le_of_ble_eq_true rfl) rfl ?_
                            refine G_goto 144 dr_cX17_colours_250 (by decide +kernel) ?_
                            refine G_lv (L' := [(3, .int z335474), (2, .int z335389), (0, .ref q327364), (1, .int p327365)]) [0, 4, 5, 6] rfl ?_
                            exact ih144_335368 F335362 z335474 z335389 (gB_w bz335474 (by decide) (by decide)) (gB_w bz335389 (by decide) (by decide)) hT335363 hs335364 (fun h0 => absurd h0 (by omega)) (by omega) x335367 x335368 (mz_dn ez335389 (Int.le_trans (by decide) bg335361'.1) hm144_335368)
                          · have r335475 : o335471.toInt < p327365.toInt := gC_nle hc335472
                            have bo335471' : gB o335471 0 31 := ⟨by omega, by omega⟩
                            refine G_aload_n 5 dr_cX17_colours_235 rfl ?_
                            refine Gp_get 17 hm335373 he335372 dr_cX17_colours_236 (gk_X17 D I) (Nat.le_of_ble_eq_true rfl) wr_7_91 rfl ?_
                            refine G_iload 2 dr_cX17_colours_239 rfl ?_
                            refine G_iload 0 dr_cX17_colours_241 rfl ?_
                            refine Gp_iast 0 hm335382 he335383 dr_cX17_colours_243 rfl (gB_in bz335390 (by decide) (by decide)) (fun F335476 e335477 n335478 => ?_)
                            obtain ⟨f335479, hf335479⟩ : ∃ z, z = upd f335384 z335390.toNatClampNeg o335471 := ⟨_, rfl⟩
                            rw [← hf335479] at e335477
                            have he335480 : F335476 q327364 = .inr (22, [.ref (γ 9 0), .ref (γ 9 1), .ref (γ 9 2), .ref (γ 9 3), .ref (γ 9 4), .ref (γ 9 5), .ref (γ 9 6), .ref (γ 9 7), .ref (γ 9 8), .int p327371, .int p327372, .int p327373, .int p327374, .int p327375, .int p327376, .ref (γ 9 15), .ref (γ 9 16), .ref (γ 9 17), .ref (γ 9 18), .ref (γ 9 19), .ref (γ 9 20), .ref (γ 9 21), .ref (γ 9 22), .int p327377, .int p327378, .int p327379, .int p327380, .int p327381, .ref q327369, .ref (γ 9 29), .int p327382, .ref (γ 9 31), .int p327383, .int p327384, .int p327385, .ref q327370]) := (n335478 q327364 (rn_oa he335372 he335383)).trans he335372
                            have he335481 : F335476 (γ 9 3) = .inl (I .boolean, 2000, .inl f327416) := (n335478 (γ 9 3) (rn_ty ht327391 ht327399 (by decide))).trans he335374
                            have he335482 : F335476 (γ 9 18) = .inl (I .boolean, 2000, .inl f335378) := (n335478 (γ 9 18) (rn_ty ht327400 ht327399 (by decide))).trans he335377
                            have he335483 : F335476 (γ 9 15) = .inl (I .int, 2000, .inl f335381) := (n335478 (γ 9 15) (rn_ty ht327397 ht327399 (by decide))).trans he335380
                            have he335484 : F335476 (γ 9 17) = .inl (I .int, 2000, .inl f335479) := e335477
                            have hs335485 : rStr γ [] F327363 F335476 := rStr_put hs335364 n335478 ht327399 (by decide)
                            have kp335486 : F335476 q327364 = F327363 q327364 := (n335478 q327364 (rn_ty htq327364 ht327399 (by decide))).trans x335367
                            have kp335487 : F335476 (γ 9 3) = F327363 (γ 9 3) := (n335478 (γ 9 3) (rn_ty ht327391 ht327399 (by decide))).trans x335368
                            have bf335479 : gF f335479 (-1) 31 := gF_upd hf335479 bf335384 (gB_w bo335471' (by decide) (by decide))
                            refine G_goto 250 dr_cX17_colours_244 (by decide +kernel) ?_
                            refine G_goto 144 dr_cX17_colours_250 (by decide +kernel) ?_
                            have hT335488 : RS D I P327362 F335476 γ el := RS_set hT335363 n335478 ht327399 (by decide) ⟨f335479, he335484, bf335479⟩
                            refine G_lv (L' := [(3, .int g335360), (2, .int z335389), (0, .ref q327364), (1, .int p327365)]) [4, 3, 5, 6] rfl ?_
                            exact ih144_335368 F335476 g335360 z335389 bg335360 (gB_w bz335389 (by decide) (by decide)) hT335488 hs335485 (by rw [cB_of he335481, cB_of he335483, cB_of he335484]; exact fun h0 => co_u hz335390 hf335479 (by omega) (by omega) (by omega) (cq335385 h0)) (by omega) kp335486 kp335487 (mz_dn ez335389 (Int.le_trans (by decide) bg335361'.1) hm144_335368)
                        · have r335489 : g335458.toInt < 2000 := gj_nleL hc335462 (show Int32.toInt 2000 = 2000 by decide)
                          have bg335458' : gB g335458 0 1999 := ⟨by omega, by omega⟩
                          refine G_aload_n 5 dr_cX17_colours_173 rfl ?_
                          refine Gp_get 17 hm335373 he335372 dr_cX17_colours_174 (gk_X17 D I) (Nat.le_of_ble_eq_true rfl) wr_7_91 rfl ?_
                          refine G_iload 0 dr_cX17_colours_177 rfl ?_
                          refine Gp_iald 0 hm335382 he335383 dr_cX17_colours_179 rfl (gB_in bg335458' (by decide) (by decide)) (G_nam fun z335490 hz335490 => ?_)
                          have bz335490 : gB z335490 (-1) 31 := by rw [hz335490]; exact bf335384 _
                          refine G_if_lt 212 dr_cX17_colours_180 (by decide +kernel) (fun hc335491 => ?_) (fun hc335491 => ?_)
                          · have r335492 : z335490.toInt < 0 := gj_lt hc335491 (show Int32.toInt 0 = 0 by decide)
                            have bz335490' : gB z335490 (-1) (-1) := ⟨by omega, by omega⟩
                            obtain ⟨z335493, hz335493⟩ : ∃ z : Int32, z = g335458 + Int32.ofInt 1 := ⟨_, rfl⟩
                            have ez335493 : z335493.toInt = g335458.toInt + 1 := gI_inc hz335493 (by decide) bg335458' (by decide) (by decide)
                            have bz335493 : gB z335493 1 2000 := ⟨by omega, by omega⟩
                            refine G_iinc (L' := [(7, .int z335493), (5, .long gl335459), (4, .int z335390), (2, .int z335389), (3, .int g335360), (0, .ref q327364), (1, .int p327365)]) z335493 0 dr_cX17_colours_212 rfl hz335493.symm (Nat.le_of_ble_eq_true rfl) rfl ?_
                            refine G_goto 165 dr_cX17_colours_215 (by decide +kernel) ?_
                            exact ih165_335460 z335493 gl335459 (gB_w bz335493 (by decide) (by decide)) x335460 (mz_up ez335493 (Int.le_trans bg335458'.2 (by decide)) hm165_335460)
                          · have r335494 : 0 ≤ z335490.toInt := gj_nlt hc335491 (show Int32.toInt 0 = 0 by decide)
                            have bz335490' : gB z335490 0 31 := ⟨by omega, by omega⟩
                            refine G_aload_n 5 dr_cX17_colours_183 rfl ?_
                            refine Gp_get 1 hm335373 he335372 dr_cX17_colours_184 (gk_X17 D I) (Nat.le_of_ble_eq_true rfl) wr_7_75 rfl ?_
                            refine G_iload 2 dr_cX17_colours_187 rfl ?_
                            have hm335495 : (γ 9 1) ∈ P327362 := RS_m hT335363 ht327389 (by decide)
                            obtain ⟨f335497, he335496, hg335498⟩ := show rk_13 I γ (F335362 (γ 9 1)) from RS_o hT335363 ht327389
                            obtain ⟨q335499, hx335501⟩ : ∃ x, x = γ 11 z335390.toInt.toNat := ⟨_, rfl⟩
                            have ht335500 : rKd γ q335499 36 := by rw [hx335501]; exact (hg335498 _ (show z335390.toInt.toNat < 2000 by omega)).2.1
                            refine Gp_aald 5 hm335495 he335496 dr_cX17_colours_189 rfl rfl (gB_in bz335390 (by decide) (by decide)) ?_
                            rw [show f335497 z335390.toNatClampNeg = some q335499 from (hg335498 _ (show z335390.toInt.toNat < 2000 by omega)).1.trans (by rw [hx335501])]
                            change G _ _ _ _ _ _ _ (.ref q335499 :: _) _ _ _
                            refine G_iload 0 dr_cX17_colours_190 rfl ?_
                            have hm335502 : q335499 ∈ P327362 := RS_m hT335363 ht335500 (by decide)
                            obtain ⟨f335504, he335503, wf335504⟩ := show rk_36 I (F335362 q335499) from RS_o hT335363 ht335500
                            refine Gw_callS (As := [.ref q335499, .int g335458]) (gV_ok D I) (cp_1838_SpillForgeModel_has l hl0 D I P327362 F335362 q335499 g335458 f335504 hm335502 he335503 (gB_w bg335458' (by decide) (by decide))) dr_cX17_colours_192 ⟨wr_10_199, wr_1_14, wr_10_201, by decide, rfl, (Nat.le_of_ble_eq_true rfl), (Nat.le_of_ble_eq_true rfl)⟩ wr_10_200 (show 0 + 0 ≤ 0 by first | omega | decide) (show 0 + 0 ≤ 0 by first | omega | decide) (Nat.le_of_ble_eq_true rfl) (fun r335508 w335509 dc335505 ds335506 hp335507 => ?_) (fun _ _ _ _ _ z => z.elim)
                            rcases hp335507 with ⟨z335510, z335511, rfl, rfl, hdc, hds, r335512, r335513, r335514, r335515⟩ | ⟨z335516, z335517, rfl, rfl, hdc, hds, r335518, r335519, r335520, r335521⟩
                            · change G _ _ _ _ _ _ _ (.int 0 :: _) _ _ _
                              refine G_widen (cs' := 0) (sl' := 0) (by omega) (by omega) ?_
                              refine G_if_eq 212 dr_cX17_colours_195 (by decide +kernel) (fun _ => ?_) (fun hc => absurd hc (by decide))
                              obtain ⟨z335523, hz335523⟩ : ∃ z : Int32, z = g335458 + Int32.ofInt 1 := ⟨_, rfl⟩
                              have ez335523 : z335523.toInt = g335458.toInt + 1 := gI_inc hz335523 (by decide) bg335458' (by decide) (by decide)
                              have bz335523 : gB z335523 1 2000 := ⟨by omega, by omega⟩
                              refine G_iinc (L' := [(7, .int z335523), (5, .long gl335459), (4, .int z335390), (2, .int z335389), (3, .int g335360), (0, .ref q327364), (1, .int p327365)]) z335523 0 dr_cX17_colours_212 rfl hz335523.symm (Nat.le_of_ble_eq_true rfl) rfl ?_
                              refine G_goto 165 dr_cX17_colours_215 (by decide +kernel) ?_
                              exact ih165_335460 z335523 gl335459 (gB_w bz335523 (by decide) (by decide)) x335460 (mz_up ez335523 (Int.le_trans bg335458'.2 (by decide)) hm165_335460)
                            · change G _ _ _ _ _ _ _ (.int 1 :: _) _ _ _
                              refine G_widen (cs' := 0) (sl' := 0) (by omega) (by omega) ?_
                              refine G_if_eq 212 dr_cX17_colours_195 (by decide +kernel) (fun hc => absurd hc (by decide)) (fun _ => ?_)
                              refine G_lload 1 dr_cX17_colours_198 rfl ?_
                              refine G_lconst 1 dr_cX17_colours_200 rfl ?_
                              refine G_aload_n 5 dr_cX17_colours_201 rfl ?_
                              refine Gp_get 17 hm335373 he335372 dr_cX17_colours_202 (gk_X17 D I) (Nat.le_of_ble_eq_true rfl) wr_7_91 rfl ?_
                              refine G_iload 0 dr_cX17_colours_205 rfl ?_
                              refine Gp_iald 0 hm335382 he335383 dr_cX17_colours_207 rfl (gB_in bg335458' (by decide) (by decide)) (G_eqi (y := z335490) hz335490.symm ?_)
                              refine G_lshl dr_cX17_colours_208 (G_namL fun u335524 hu335524 => ?_)
                              have qu335524 : lb_Q u335524 (z335490.toInt % 64 + 1) := lb_Qshl hu335524 (by omega)
                              refine G_lor dr_cX17_colours_209 (G_namL fun u335525 hu335525 => ?_)
                              have qu335525 : lb_Q u335525 (32) := lb_Qor hu335525 x335460 (lb_Qw qu335524 (by omega))
                              refine G_lstore (L' := [(5, .long u335525), (7, .int g335458), (4, .int z335390), (2, .int z335389), (3, .int g335360), (0, .ref q327364), (1, .int p327365)]) dr_cX17_colours_210 (Nat.le_of_ble_eq_true rfl) rfl ?_
                              obtain ⟨z335526, hz335526⟩ : ∃ z : Int32, z = g335458 + Int32.ofInt 1 := ⟨_, rfl⟩
                              have ez335526 : z335526.toInt = g335458.toInt + 1 := gI_inc hz335526 (by decide) bg335458' (by decide) (by decide)
                              have bz335526 : gB z335526 1 2000 := ⟨by omega, by omega⟩
                              refine G_iinc (L' := [(7, .int z335526), (5, .long u335525), (4, .int z335390), (2, .int z335389), (3, .int g335360), (0, .ref q327364), (1, .int p327365)]) z335526 1 dr_cX17_colours_212 rfl hz335526.symm (Nat.le_of_ble_eq_true rfl) rfl ?_
                              refine G_goto 165 dr_cX17_colours_215 (by decide +kernel) ?_
                              exact ih165_335460 z335526 u335525 (gB_w bz335526 (by decide) (by decide)) qu335525 (mz_up ez335526 (Int.le_trans bg335458'.2 (by decide)) hm165_335460)
                    exact hlp165_335460 (((2001 : Int) - 0).toNat + 1) 0 0 (gB_w (gBl (show Int32.toInt 0 = 0 by decide)) (by decide) (by decide)) lb_Q0 (Nat.lt_succ_self _)
              exact hlp144_335368 (((g335167.toInt : Int) - (-1)).toNat + 1) F335168 0 g335167 (gB_w (gBl (show Int32.toInt 0 = 0 by decide)) (by decide) (by decide)) bg335167 hT335169 hs335170 (by rw [cB_of he335182, cB_of he335188, cB_of he335191]; exact fun _ m s => Or.inl ((cq335193 m s).resolve_left (cq335196 (by omega) m))) (by have qa0 : Int32.toInt 0 = 0 := (by decide); omega) x335175 x335176 (Nat.lt_succ_self _)
            · have r335527 : 0 ≤ g335166.toInt := gj_nlt hc335197 (show Int32.toInt 0 = 0 by decide)
              have bg335166' : gB g335166 0 1999 := ⟨by omega, by omega⟩
              have r335528 := rcn_pos (cq335195 (by omega))
              have r335529 := cq335194
              have bg335167' : gB g335167 0 1999 := ⟨by omega, by omega⟩
              refine G_aload_n 2 dr_cX17_colours_74 rfl ?_
              refine Gp_get 15 hm335181 he335180 dr_cX17_colours_75 (gk_X17 D I) (Nat.le_of_ble_eq_true rfl) wr_7_89 rfl ?_
              refine G_iload_n 1 dr_cX17_colours_78 rfl ?_
              refine G_iload_n 0 dr_cX17_colours_79 rfl ?_
              refine Gp_iast 0 hm335187 he335188 dr_cX17_colours_80 rfl (gB_in bg335167' (by decide) (by decide)) (fun F335530 e335531 n335532 => ?_)
              obtain ⟨f335533, hf335533⟩ : ∃ z, z = upd f335189 g335167.toNatClampNeg g335166 := ⟨_, rfl⟩
              rw [← hf335533] at e335531
              have he335534 : F335530 q327364 = .inr (22, [.ref (γ 9 0), .ref (γ 9 1), .ref (γ 9 2), .ref (γ 9 3), .ref (γ 9 4), .ref (γ 9 5), .ref (γ 9 6), .ref (γ 9 7), .ref (γ 9 8), .int p327371, .int p327372, .int p327373, .int p327374, .int p327375, .int p327376, .ref (γ 9 15), .ref (γ 9 16), .ref (γ 9 17), .ref (γ 9 18), .ref (γ 9 19), .ref (γ 9 20), .ref (γ 9 21), .ref (γ 9 22), .int p327377, .int p327378, .int p327379, .int p327380, .int p327381, .ref q327369, .ref (γ 9 29), .int p327382, .ref (γ 9 31), .int p327383, .int p327384, .int p327385, .ref q327370]) := (n335532 q327364 (rn_oa he335180 he335188)).trans he335180
              have he335535 : F335530 (γ 9 3) = .inl (I .boolean, 2000, .inl f327416) := (n335532 (γ 9 3) (rn_ty ht327391 ht327397 (by decide))).trans he335182
              have he335536 : F335530 (γ 9 18) = .inl (I .boolean, 2000, .inl f335186) := (n335532 (γ 9 18) (rn_ty ht327400 ht327397 (by decide))).trans he335185
              have he335537 : F335530 (γ 9 17) = .inl (I .int, 2000, .inl f335192) := (n335532 (γ 9 17) (rn_ty ht327399 ht327397 (by decide))).trans he335191
              have he335538 : F335530 (γ 9 15) = .inl (I .int, 2000, .inl f335533) := e335531
              have hs335539 : rStr γ [] F327363 F335530 := rStr_put hs335170 n335532 ht327397 (by decide)
              have kp335540 : F335530 q327364 = F327363 q327364 := (n335532 q327364 (rn_ty htq327364 ht327397 (by decide))).trans x335175
              have kp335541 : F335530 (γ 9 3) = F327363 (γ 9 3) := (n335532 (γ 9 3) (rn_ty ht327391 ht327397 (by decide))).trans x335176
              have bf335533 : gF f335533 0 1999 := gF_upd hf335533 bf335189 bg335166'
              obtain ⟨z335542, hz335542⟩ : ∃ z : Int32, z = g335167 + Int32.ofInt 1 := ⟨_, rfl⟩
              have ez335542 : z335542.toInt = g335167.toInt + 1 := gI_inc hz335542 (by decide) bg335167' (by decide) (by decide)
              have bz335542 : gB z335542 1 2000 := ⟨by omega, by omega⟩
              refine G_iinc (L' := [(2, .int z335542), (3, .int g335166), (0, .ref q327364), (1, .int p327365)]) z335542 1 dr_cX17_colours_81 rfl hz335542.symm (Nat.le_of_ble_eq_true rfl) rfl ?_
              refine G_aload_n 2 dr_cX17_colours_84 rfl ?_
              refine Gp_get 18 hm335181 he335534 dr_cX17_colours_85 (gk_X17 D I) (Nat.le_of_ble_eq_true rfl) wr_7_92 rfl ?_
              refine G_iload_n 1 dr_cX17_colours_88 rfl ?_
              refine G_iconst 0 dr_cX17_colours_89 (by decide +kernel) ?_
              have hT335543 : RS D I P327362 F335530 γ el := RS_set hT335169 n335532 ht327397 (by decide) ⟨f335533, he335538, bf335533⟩
              refine Gp_zast 3 hm335184 he335536 dr_cX17_colours_90 rfl (gB_in bg335166' (by decide) (by decide)) (fun F335544 e335545 n335546 => ?_)
              obtain ⟨f335547, hf335547⟩ : ∃ z, z = upd f335186 g335166.toNatClampNeg (vp_nar .boolean 0) := ⟨_, rfl⟩
              rw [← hf335547] at e335545
              have he335548 : F335544 q327364 = .inr (22, [.ref (γ 9 0), .ref (γ 9 1), .ref (γ 9 2), .ref (γ 9 3), .ref (γ 9 4), .ref (γ 9 5), .ref (γ 9 6), .ref (γ 9 7), .ref (γ 9 8), .int p327371, .int p327372, .int p327373, .int p327374, .int p327375, .int p327376, .ref (γ 9 15), .ref (γ 9 16), .ref (γ 9 17), .ref (γ 9 18), .ref (γ 9 19), .ref (γ 9 20), .ref (γ 9 21), .ref (γ 9 22), .int p327377, .int p327378, .int p327379, .int p327380, .int p327381, .ref q327369, .ref (γ 9 29), .int p327382, .ref (γ 9 31), .int p327383, .int p327384, .int p327385, .ref q327370]) := (n335546 q327364 (rn_oa he335534 he335536)).trans he335534
              have he335549 : F335544 (γ 9 3) = .inl (I .boolean, 2000, .inl f327416) := (n335546 (γ 9 3) (rn_ty ht327391 ht327400 (by decide))).trans he335535
              have he335550 : F335544 (γ 9 15) = .inl (I .int, 2000, .inl f335533) := (n335546 (γ 9 15) (rn_ty ht327397 ht327400 (by decide))).trans he335538
              have he335551 : F335544 (γ 9 17) = .inl (I .int, 2000, .inl f335192) := (n335546 (γ 9 17) (rn_ty ht327399 ht327400 (by decide))).trans he335537
              have he335552 : F335544 (γ 9 18) = .inl (I .boolean, 2000, .inl f335547) := e335545
              have hs335553 : rStr γ [] F327363 F335544 := rStr_put hs335539 n335546 ht327400 (by decide)
              have kp335554 : F335544 q327364 = F327363 q327364 := (n335546 q327364 (rn_ty htq327364 ht327400 (by decide))).trans kp335540
              have kp335555 : F335544 (γ 9 3) = F327363 (γ 9 3) := (n335546 (γ 9 3) (rn_ty ht327391 ht327400 (by decide))).trans kp335541
              have bf335547 : gF f335547 0 1 := gF_upd hf335547 bf335186 (gB_w (gBl (show Int32.toInt 0 = 0 by decide)) (by decide) (by decide))
              have hT335557 : RS D I P327362 F335544 γ el := RS_set hT335543 n335546 ht327400 (by decide) ⟨f335547, he335552, bf335547⟩
              have td335556 := th_d hf335547 (by omega) (cq335195 (by omega))
              refine G_iconst 0 dr_cX17_colours_91 (by decide +kernel) ?_
              refine G_istore (L' := [(4, .int 0), (2, .int z335542), (3, .int g335166), (0, .ref q327364), (1, .int p327365)]) dr_cX17_colours_92 (Nat.le_of_ble_eq_true rfl) rfl ?_
              have hlp94_335647 : ∀ (n94_335647 : Nat) (F335640 : Nat → va_E) (g335639 : Int32), gB g335639 0 2000 → RS D I P327362 F335640 γ el → rStr γ [] F327363 F335640 → (∀ m : Nat, rSd (cB (F335640 (γ 9 3))) m → rSd (cB (F335640 (γ 9 18))) m ∨ ∃ i : Nat, (i : Int) < z335542.toInt ∧ (cB (F335640 (γ 9 15)) i).toInt = m) → (rcn (cB (F335640 (γ 9 18))) 2000 + (z335542.toInt : Int).toNat ≤ 2000) → (rcn (cB (F335640 (γ 9 18))) 2000 + 1 ≤ rcn (cB (F335168 (γ 9 18))) 2000) → (F335640 q327364 = F327363 q327364) → (F335640 (γ 9 3) = F327363 (γ 9 3)) → ((2001 : Int) - g335639.toInt).toNat < n94_335647 → G (gV D I) l (gRm 2 43 0 0) (gMA (gV D I) (pt_327366_SpillForgeModel_colours D I γ el P327362 F327363 q327364 p327365) gNA 0 0) ky_327366_SpillForgeModel_colours 94 [(4, .int g335639), (2, .int z335542), (3, .int g335166), (0, .ref q327364), (1, .int p327365)] [] (va_pl P327362 F335640) 0 0 := by
                intro n94_335647
                induction n94_335647 with
                | zero => intro F335640 g335639 bg335639 hT335641 hs335642 x335643 x335644 x335645 x335646 x335647 hm94_335647; exact absurd hm94_335647 (Nat.not_lt_zero _)
                | succ n94_335647 ih94_335647 =>
                  intro F335640 g335639 bg335639 hT335641 hs335642 x335643 x335644 x335645 x335646 x335647 hm94_335647
                  have hs335649 : rStr γ [] F335544 F335640 := fun b h0 hb hw => (hs335642 b h0 hb hw).trans (hs335553 b h0 hb hw).symm
                  have hs335650 : rStr γ [] F327363 F335640 := rStr_tr hs335553 hs335649
                  have he335651 : F335640 q327364 = .inr (22, [.ref (γ 9 0), .ref (γ 9 1), .ref (γ 9 2), .ref (γ 9 3), .ref (γ 9 4), .ref (γ 9 5), .ref (γ 9 6), .ref (γ 9 7), .ref (γ 9 8), .int p327371, .int p327372, .int p327373, .int p327374, .int p327375, .int p327376, .ref (γ 9 15), .ref (γ 9 16), .ref (γ 9 17), .ref (γ 9 18), .ref (γ 9 19), .ref (γ 9 20), .ref (γ 9 21), .ref (γ 9 22), .int p327377, .int p327378, .int p327379, .int p327380, .int p327381, .ref q327369, .ref (γ 9 29), .int p327382, .ref (γ 9 31), .int p327383, .int p327384, .int p327385, .ref q327370]) := x335646.trans he327368
                  have hm335652 : q327364 ∈ P327362 := RS_m hT335641 htq327364 (by decide)
                  have he335653 : F335640 (γ 9 3) = .inl (I .boolean, 2000, .inl f327416) := x335647.trans he327415
                  have hm335654 : (γ 9 3) ∈ P327362 := RS_m hT335641 ht327391 (by decide)
                  have hm335655 : (γ 9 18) ∈ P327362 := RS_m hT335641 ht327400 (by decide)
                  obtain ⟨f335657, he335656, bf335657⟩ := show rk_15 I (F335640 (γ 9 18)) from RS_o hT335641 ht327400
                  have hm335658 : (γ 9 15) ∈ P327362 := RS_m hT335641 ht327397 (by decide)
                  obtain ⟨f335660, he335659, bf335660⟩ := show rk_18 I (F335640 (γ 9 15)) from RS_o hT335641 ht327397
                  have hm335661 : (γ 9 17) ∈ P327362 := RS_m hT335641 ht327399 (by decide)
                  obtain ⟨f335663, he335662, bf335663⟩ := show rk_20 I (F335640 (γ 9 17)) from RS_o hT335641 ht327399
                  have cq335664 := x335643
                  rw [cB_of he335653, cB_of he335656, cB_of he335659] at cq335664
                  have cq335665 := x335644
                  rw [cB_of he335656] at cq335665
                  have cq335666 := x335645
                  rw [cB_of he335656] at cq335666
                  refine G_iload 0 dr_cX17_colours_94 rfl ?_
                  refine G_sipush 2000 dr_cX17_colours_96 (by decide +kernel) ?_
                  refine G_icmp_ge 133 dr_cX17_colours_99 (by decide +kernel) (fun hc335667 => ?_) (fun hc335667 => ?_)
                  · have r335668 : 2000 ≤ g335639.toInt := gj_leL hc335667 (show Int32.toInt 2000 = 2000 by decide)
                    have bg335639' : gB g335639 2000 2000 := ⟨by omega, by omega⟩
                    refine G_aload_n 3 dr_cX17_colours_133 rfl ?_
                    refine G_iload_n 4 dr_cX17_colours_134 rfl ?_
                    refine Gw_callV (As := [.int p327365]) (gV_ok D I) (ct_328156_SpillForgeModel_next l hl0 D I γ el P327362 F335640 q327364 p327365 hT335641 htq327364) dr_cX17_colours_135 ⟨wr_11_47, wr_1_14, wr_11_50, by decide, rfl, (Nat.le_of_ble_eq_true rfl), (Nat.le_of_ble_eq_true rfl)⟩ wr_11_49 wr_p_107 hm335652 he335651 rfl (show 0 + 0 ≤ 0 by first | omega | decide) (show 0 + 0 ≤ 0 by first | omega | decide) (Nat.le_of_ble_eq_true rfl) (fun r335672 w335673 dc335669 ds335670 hp335671 => ?_) (fun _ _ _ _ _ z => z.elim)
                    obtain ⟨o335674, rfl, rfl, hdc, hds, bo335674, x335675, x335676⟩ := hp335671
                    change G _ _ _ _ _ _ _ (.int o335674 :: _) _ _ _
                    refine G_widen (cs' := 0) (sl' := 0) (by omega) (by omega) ?_
                    refine G_istore_n (L' := [(3, .int o335674), (4, .int g335639), (2, .int z335542), (0, .ref q327364), (1, .int p327365)]) dr_cX17_colours_138 (Nat.le_of_ble_eq_true rfl) rfl ?_
                    refine G_goto 70 dr_cX17_colours_139 (by decide +kernel) ?_
                    refine G_lv (L' := [(3, .int o335674), (2, .int z335542), (0, .ref q327364), (1, .int p327365)]) [0, 2, 3, 4] rfl ?_
                    exact ih70_335176 F335640 o335674 z335542 bo335674 (gB_w bz335542 (by decide) (by decide)) hT335641 hs335642 (by rw [cB_of he335653, cB_of he335656, cB_of he335659]; exact cq335664) (by rw [cB_of he335656]; exact cq335665) x335675 x335676 x335646 x335647 (by have q := cq335666; rw [cB_of he335185] at q; rw [cB_of he335656]; rw [cB_of he335185] at hm70_335176; omega)
                  · have r335677 : g335639.toInt < 2000 := gj_nleL hc335667 (show Int32.toInt 2000 = 2000 by decide)
                    have bg335639' : gB g335639 0 1999 := ⟨by omega, by omega⟩
                    refine G_aload_n 3 dr_cX17_colours_102 rfl ?_
                    refine Gp_get 1 hm335652 he335651 dr_cX17_colours_103 (gk_X17 D I) (Nat.le_of_ble_eq_true rfl) wr_7_75 rfl ?_
                    refine G_iload_n 2 dr_cX17_colours_106 rfl ?_
                    have hm335678 : (γ 9 1) ∈ P327362 := RS_m hT335641 ht327389 (by decide)
                    obtain ⟨f335680, he335679, hg335681⟩ := show rk_13 I γ (F335640 (γ 9 1)) from RS_o hT335641 ht327389
                    obtain ⟨q335682, hx335684⟩ : ∃ x, x = γ 11 g335166.toInt.toNat := ⟨_, rfl⟩
                    have ht335683 : rKd γ q335682 36 := by rw [hx335684]; exact (hg335681 _ (show g335166.toInt.toNat < 2000 by omega)).2.1
                    refine Gp_aald 5 hm335678 he335679 dr_cX17_colours_107 rfl rfl (gB_in bg335166' (by decide) (by decide)) ?_
                    rw [show f335680 g335166.toNatClampNeg = some q335682 from (hg335681 _ (show g335166.toInt.toNat < 2000 by omega)).1.trans (by rw [hx335684])]
                    change G _ _ _ _ _ _ _ (.ref q335682 :: _) _ _ _
                    refine G_iload 0 dr_cX17_colours_108 rfl ?_
                    have hm335685 : q335682 ∈ P327362 := RS_m hT335641 ht335683 (by decide)
                    obtain ⟨f335687, he335686, wf335687⟩ := show rk_36 I (F335640 q335682) from RS_o hT335641 ht335683
                    refine Gw_callS (As := [.ref q335682, .int g335639]) (gV_ok D I) (cp_1838_SpillForgeModel_has l hl0 D I P327362 F335640 q335682 g335639 f335687 hm335685 he335686 (gB_w bg335639' (by decide) (by decide))) dr_cX17_colours_110 ⟨wr_10_199, wr_1_14, wr_10_201, by decide, rfl, (Nat.le_of_ble_eq_true rfl), (Nat.le_of_ble_eq_true rfl)⟩ wr_10_200 (show 0 + 0 ≤ 0 by first | omega | decide) (show 0 + 0 ≤ 0 by first | omega | decide) (Nat.le_of_ble_eq_true rfl) (fun r335691 w335692 dc335688 ds335689 hp335690 => ?_) (fun _ _ _ _ _ z => z.elim)
                    rcases hp335690 with ⟨z335693, z335694, rfl, rfl, hdc, hds, r335695, r335696, r335697, r335698⟩ | ⟨z335699, z335700, rfl, rfl, hdc, hds, r335701, r335702, r335703, r335704⟩
                    · change G _ _ _ _ _ _ _ (.int 0 :: _) _ _ _
                      refine G_widen (cs' := 0) (sl' := 0) (by omega) (by omega) ?_
                      refine G_if_eq 127 dr_cX17_colours_113 (by decide +kernel) (fun _ => ?_) (fun hc => absurd hc (by decide))
                      obtain ⟨z335706, hz335706⟩ : ∃ z : Int32, z = g335639 + Int32.ofInt 1 := ⟨_, rfl⟩
                      have ez335706 : z335706.toInt = g335639.toInt + 1 := gI_inc hz335706 (by decide) bg335639' (by decide) (by decide)
                      have bz335706 : gB z335706 1 2000 := ⟨by omega, by omega⟩
                      refine G_iinc (L' := [(4, .int z335706), (2, .int z335542), (3, .int g335166), (0, .ref q327364), (1, .int p327365)]) z335706 0 dr_cX17_colours_127 rfl hz335706.symm (Nat.le_of_ble_eq_true rfl) rfl ?_
                      refine G_goto 94 dr_cX17_colours_130 (by decide +kernel) ?_
                      exact ih94_335647 F335640 z335706 (gB_w bz335706 (by decide) (by decide)) hT335641 hs335642 (by rw [cB_of he335653, cB_of he335656, cB_of he335659]; exact cq335664) (by rw [cB_of he335656]; exact cq335665) (by rw [cB_of he335656]; exact cq335666) x335646 x335647 (mz_up ez335706 (Int.le_trans bg335639'.2 (by decide)) hm94_335647)
                    · change G _ _ _ _ _ _ _ (.int 1 :: _) _ _ _
                      refine G_widen (cs' := 0) (sl' := 0) (by omega) (by omega) ?_
                      refine G_if_eq 127 dr_cX17_colours_113 (by decide +kernel) (fun hc => absurd hc (by decide)) (fun _ => ?_)
                      refine G_aload_n 3 dr_cX17_colours_116 rfl ?_
                      refine Gp_get 16 hm335652 he335651 dr_cX17_colours_117 (gk_X17 D I) (Nat.le_of_ble_eq_true rfl) wr_7_90 rfl ?_
                      refine G_iload 0 dr_cX17_colours_120 rfl ?_
                      refine G_dup2_11 dr_cX17_colours_122 rfl rfl ?_
                      have hm335707 : (γ 9 16) ∈ P327362 := RS_m hT335641 ht327398 (by decide)
                      obtain ⟨f335709, he335708⟩ := show rk_19 I (F335640 (γ 9 16)) from RS_o hT335641 ht327398
                      refine Gp_iald 0 hm335707 he335708 dr_cX17_colours_123 rfl (gB_in bg335639' (by decide) (by decide)) (G_nam fun z335710 hz335710 => ?_)
                      have bz335710 : gB z335710 (-2147483648) 2147483647 := gB_any z335710
                      refine G_iconst 1 dr_cX17_colours_124 (by decide +kernel) ?_
                      refine G_isub dr_cX17_colours_125 (G_nam fun z335711 hz335711 => ?_)
                      have bz335711 : gB z335711 (-2147483648) 2147483647 := gB_any z335711
                      refine Gp_iast 0 hm335707 he335708 dr_cX17_colours_126 rfl (gB_in bg335639' (by decide) (by decide)) (fun F335712 e335713 n335714 => ?_)
                      obtain ⟨f335715, hf335715⟩ : ∃ z, z = upd f335709 g335639.toNatClampNeg z335711 := ⟨_, rfl⟩
                      rw [← hf335715] at e335713
                      have he335716 : F335712 q327364 = .inr (22, [.ref (γ 9 0), .ref (γ 9 1), .ref (γ 9 2), .ref (γ 9 3), .ref (γ 9 4), .ref (γ 9 5), .ref (γ 9 6), .ref (γ 9 7), .ref (γ 9 8), .int p327371, .int p327372, .int p327373, .int p327374, .int p327375, .int p327376, .ref (γ 9 15), .ref (γ 9 16), .ref (γ 9 17), .ref (γ 9 18), .ref (γ 9 19), .ref (γ 9 20), .ref (γ 9 21), .ref (γ 9 22), .int p327377, .int p327378, .int p327379, .int p327380, .int p327381, .ref q327369, .ref (γ 9 29), .int p327382, .ref (γ 9 31), .int p327383, .int p327384, .int p327385, .ref q327370]) := (n335714 q327364 (rn_oa he335651 he335708)).trans he335651
                      have he335717 : F335712 (γ 9 3) = .inl (I .boolean, 2000, .inl f327416) := (n335714 (γ 9 3) (rn_ty ht327391 ht327398 (by decide))).trans he335653
                      have he335718 : F335712 (γ 9 18) = .inl (I .boolean, 2000, .inl f335657) := (n335714 (γ 9 18) (rn_ty ht327400 ht327398 (by decide))).trans he335656
                      have he335719 : F335712 (γ 9 15) = .inl (I .int, 2000, .inl f335660) := (n335714 (γ 9 15) (rn_ty ht327397 ht327398 (by decide))).trans he335659
                      have he335720 : F335712 (γ 9 17) = .inl (I .int, 2000, .inl f335663) := (n335714 (γ 9 17) (rn_ty ht327399 ht327398 (by decide))).trans he335662
                      have he335721 : F335712 (γ 9 1) = .inl (I (.array .long), 2000, .inr (.inr (.inr (.inr f335680)))) := (n335714 (γ 9 1) (rn_ref_num he335679 he335708)).trans he335679
                      have he335722 : F335712 q335682 = .inl (I .long, 32, .inr (.inl f335687)) := (n335714 q335682 (rn_long_num he335686 he335708)).trans he335686
                      have he335723 : F335712 (γ 9 16) = .inl (I .int, 2000, .inl f335715) := e335713
                      have hs335724 : rStr γ [] F327363 F335712 := rStr_put hs335642 n335714 ht327398 (by decide)
                      have kp335725 : F335712 q327364 = F327363 q327364 := (n335714 q327364 (rn_ty htq327364 ht327398 (by decide))).trans x335646
                      have kp335726 : F335712 (γ 9 3) = F327363 (γ 9 3) := (n335714 (γ 9 3) (rn_ty ht327391 ht327398 (by decide))).trans x335647
                      obtain ⟨z335727, hz335727⟩ : ∃ z : Int32, z = g335639 + Int32.ofInt 1 := ⟨_, rfl⟩
                      have ez335727 : z335727.toInt = g335639.toInt + 1 := gI_inc hz335727 (by decide) bg335639' (by decide) (by decide)
                      have bz335727 : gB z335727 1 2000 := ⟨by omega, by omega⟩
                      refine G_iinc (L' := [(4, .int z335727), (2, .int z335542), (3, .int g335166), (0, .ref q327364), (1, .int p327365)]) z335727 0 dr_cX17_colours_127 rfl hz335727.symm (Nat.le_of_ble_eq_true rfl) rfl ?_
                      refine G_goto 94 dr_cX17_colours_130 (by decide +kernel) ?_
                      have hT335728 : RS D I P327362 F335712 γ el := RS_set hT335641 n335714 ht327398 (by decide) ⟨f335715, he335723⟩
                      exact ih94_335647 F335712 z335727 (gB_w bz335727 (by decide) (by decide)) hT335728 hs335724 (by rw [cB_of he335717, cB_of he335718, cB_of he335719]; exact cq335664) (by rw [cB_of he335718]; exact cq335665) (by rw [cB_of he335718]; exact cq335666) kp335725 kp335726 (mz_up ez335727 (Int.le_trans bg335639'.2 (by decide)) hm94_335647)
              exact hlp94_335647 (((2001 : Int) - 0).toNat + 1) F335544 0 (gB_w (gBl (show Int32.toInt 0 = 0 by decide)) (by decide) (by decide)) hT335557 hs335553 (by rw [ez335542]; rw [cB_of he335549, cB_of he335552, cB_of he335550]; exact pi_u hf335547 hf335533 (by omega) (by omega) cq335193) (by rw [cB_of he335552]; have q := td335556; have q2 := cq335194; omega) (by rw [cB_of he335552]; rw [cB_of he335185]; have q := td335556; omega) kp335554 kp335555 (Nat.lt_succ_self _)
        exact hlp70_335176 ((rcn (cB (F334586 (γ 9 18))) 2000) + 1) F334586 o334616 0 bo334616 (gB_w (gBl (show Int32.toInt 0 = 0 by decide)) (by decide) (by decide)) hT334587 hs334588 (by rw [cB_of he334597, cB_of he334600, cB_of he334603]; exact fun m s => Or.inl (cq334608 m (by have := s.1; omega) s)) (by have q := rcn_le (g := cB (F334586 (γ 9 18))) 2000; have qa : Int32.toInt 0 = 0 := (by decide); omega) x334617 x334618 x334590 x334591 (Nat.lt_succ_self _)
      · have r335729 : g334585.toInt < 2000 := gj_nleL hc334609 (show Int32.toInt 2000 = 2000 by decide)
        have bg334585' : gB g334585 0 1999 := ⟨by omega, by omega⟩
        refine G_aload_n 1 dr_cX17_colours_9 rfl ?_
        refine Gp_get 18 hm334596 he334595 dr_cX17_colours_10 (gk_X17 D I) (Nat.le_of_ble_eq_true rfl) wr_7_92 rfl ?_
        refine G_iload_n 0 dr_cX17_colours_13 rfl ?_
        refine G_aload_n 1 dr_cX17_colours_14 rfl ?_
        refine Gp_get 3 hm334596 he334595 dr_cX17_colours_15 (gk_X17 D I) (Nat.le_of_ble_eq_true rfl) wr_7_77 rfl ?_
        refine G_iload_n 0 dr_cX17_colours_18 rfl ?_
        refine Gp_zald 3 hm334598 he334597 dr_cX17_colours_19 rfl (gB_in bg334585' (by decide) (by decide)) (G_nam fun z335730 hz335730 => ?_)
        have bz335730 : gB z335730 0 1 := by rw [hz335730]; exact bf327416 _
        refine Gp_zast 3 hm334599 he334600 dr_cX17_colours_20 rfl (gB_in bg334585' (by decide) (by decide)) (fun F335731 e335732 n335733 => ?_)
        obtain ⟨f335734, hf335734⟩ : ∃ z, z = upd f334601 g334585.toNatClampNeg (vp_nar .boolean z335730) := ⟨_, rfl⟩
        rw [← hf335734] at e335732
        have he335735 : F335731 q327364 = .inr (22, [.ref (γ 9 0), .ref (γ 9 1), .ref (γ 9 2), .ref (γ 9 3), .ref (γ 9 4), .ref (γ 9 5), .ref (γ 9 6), .ref (γ 9 7), .ref (γ 9 8), .int p327371, .int p327372, .int p327373, .int p327374, .int p327375, .int p327376, .ref (γ 9 15), .ref (γ 9 16), .ref (γ 9 17), .ref (γ 9 18), .ref (γ 9 19), .ref (γ 9 20), .ref (γ 9 21), .ref (γ 9 22), .int p327377, .int p327378, .int p327379, .int p327380, .int p327381, .ref q327369, .ref (γ 9 29), .int p327382, .ref (γ 9 31), .int p327383, .int p327384, .int p327385, .ref q327370]) := (n335733 q327364 (rn_oa he334595 he334600)).trans he334595
        have he335736 : F335731 (γ 9 3) = .inl (I .boolean, 2000, .inl f327416) := (n335733 (γ 9 3) (rn_ty ht327391 ht327400 (by decide))).trans he334597
        have he335737 : F335731 (γ 9 15) = .inl (I .int, 2000, .inl f334604) := (n335733 (γ 9 15) (rn_ty ht327397 ht327400 (by decide))).trans he334603
        have he335738 : F335731 (γ 9 17) = .inl (I .int, 2000, .inl f334607) := (n335733 (γ 9 17) (rn_ty ht327399 ht327400 (by decide))).trans he334606
        have he335739 : F335731 (γ 9 18) = .inl (I .boolean, 2000, .inl f335734) := e335732
        have hs335740 : rStr γ [] F327363 F335731 := rStr_put hs334588 n335733 ht327400 (by decide)
        have kp335741 : F335731 q327364 = F327363 q327364 := (n335733 q327364 (rn_ty htq327364 ht327400 (by decide))).trans x334590
        have kp335742 : F335731 (γ 9 3) = F327363 (γ 9 3) := (n335733 (γ 9 3) (rn_ty ht327391 ht327400 (by decide))).trans x334591
        have bf335734 : gF f335734 0 1 := gF_upd hf335734 bf334601 (gB_nb bz335730)
        refine G_aload_n 1 dr_cX17_colours_21 rfl ?_
        refine Gp_get 16 hm334596 he335735 dr_cX17_colours_22 (gk_X17 D I) (Nat.le_of_ble_eq_true rfl) wr_7_90 rfl ?_
        refine G_iload_n 0 dr_cX17_colours_25 rfl ?_
        refine G_aload_n 1 dr_cX17_colours_26 rfl ?_
        refine Gp_get 3 hm334596 he335735 dr_cX17_colours_27 (gk_X17 D I) (Nat.le_of_ble_eq_true rfl) wr_7_77 rfl ?_
        refine G_iload_n 0 dr_cX17_colours_30 rfl ?_
        refine Gp_zald 3 hm334598 he335736 dr_cX17_colours_31 rfl (gB_in bg334585' (by decide) (by decide)) (G_eqi (y := z335730) hz335730.symm ?_)
        refine G_if_eq 47 dr_cX17_colours_32 (by decide +kernel) (fun hc335743 => ?_) (fun hc335743 => ?_)
        · have r335744 : z335730.toInt = 0 := gj_eq hc335743 (show Int32.toInt 0 = 0 by decide)
          have bz335730' : gB z335730 0 0 := gB_t0 r335744
          refine G_iconst 0 dr_cX17_colours_47 (by decide +kernel) ?_
          have hT335745 : RS D I P327362 F335731 γ el := RS_set hT334587 n335733 ht327400 (by decide) ⟨f335734, he335739, bf335734⟩
          have hm335746 : (γ 9 16) ∈ P327362 := RS_m hT335745 ht327398 (by decide)
          obtain ⟨f335748, he335747⟩ := show rk_19 I (F335731 (γ 9 16)) from RS_o hT335745 ht327398
          refine Gp_iast 0 hm335746 he335747 dr_cX17_colours_48 rfl (gB_in bg334585' (by decide) (by decide)) (fun F335749 e335750 n335751 => ?_)
          obtain ⟨f335752, hf335752⟩ : ∃ z, z = upd f335748 g334585.toNatClampNeg 0 := ⟨_, rfl⟩
          rw [← hf335752] at e335750
          have he335753 : F335749 q327364 = .inr (22, [.ref (γ 9 0), .ref (γ 9 1), .ref (γ 9 2), .ref (γ 9 3), .ref (γ 9 4), .ref (γ 9 5), .ref (γ 9 6), .ref (γ 9 7), .ref (γ 9 8), .int p327371, .int p327372, .int p327373, .int p327374, .int p327375, .int p327376, .ref (γ 9 15), .ref (γ 9 16), .ref (γ 9 17), .ref (γ 9 18), .ref (γ 9 19), .ref (γ 9 20), .ref (γ 9 21), .ref (γ 9 22), .int p327377, .int p327378, .int p327379, .int p327380, .int p327381, .ref q327369, .ref (γ 9 29), .int p327382, .ref (γ 9 31), .int p327383, .int p327384, .int p327385, .ref q327370]) := (n335751 q327364 (rn_oa he335735 he335747)).trans he335735
          have he335754 : F335749 (γ 9 3) = .inl (I .boolean, 2000, .inl f327416) := (n335751 (γ 9 3) (rn_ty ht327391 ht327398 (by decide))).trans he335736
          have he335755 : F335749 (γ 9 18) = .inl (I .boolean, 2000, .inl f335734) := (n335751 (γ 9 18) (rn_ty ht327400 ht327398 (by decide))).trans he335739
          have he335756 : F335749 (γ 9 15) = .inl (I .int, 2000, .inl f334604) := (n335751 (γ 9 15) (rn_ty ht327397 ht327398 (by decide))).trans he335737
          have he335757 : F335749 (γ 9 17) = .inl (I .int, 2000, .inl f334607) := (n335751 (γ 9 17) (rn_ty ht327399 ht327398 (by decide))).trans he335738
          have he335758 : F335749 (γ 9 16) = .inl (I .int, 2000, .inl f335752) := e335750
          have hs335759 : rStr γ [] F327363 F335749 := rStr_put hs335740 n335751 ht327398 (by decide)
          have kp335760 : F335749 q327364 = F327363 q327364 := (n335751 q327364 (rn_ty htq327364 ht327398 (by decide))).trans kp335741
          have kp335761 : F335749 (γ 9 3) = F327363 (γ 9 3) := (n335751 (γ 9 3) (rn_ty ht327391 ht327398 (by decide))).trans kp335742
          refine G_aload_n 1 dr_cX17_colours_49 rfl ?_
          refine Gp_get 17 hm334596 he335753 dr_cX17_colours_50 (gk_X17 D I) (Nat.le_of_ble_eq_true rfl) wr_7_91 rfl ?_
          refine G_iload_n 0 dr_cX17_colours_53 rfl ?_
          refine G_iconst (-1) dr_cX17_colours_54 (by decide +kernel) ?_
          have hT335762 : RS D I P327362 F335749 γ el := RS_set hT335745 n335751 ht327398 (by decide) ⟨f335752, he335758⟩
          refine Gp_iast 0 hm334605 he335757 dr_cX17_colours_55 rfl (gB_in bg334585' (by decide) (by decide)) (fun F335763 e335764 n335765 => ?_)
          obtain ⟨f335766, hf335766⟩ : ∃ z, z = upd f334607 g334585.toNatClampNeg (-1) := ⟨_, rfl⟩
          rw [← hf335766] at e335764
          have he335767 : F335763 q327364 = .inr (22, [.ref (γ 9 0), .ref (γ 9 1), .ref (γ 9 2), .ref (γ 9 3), .ref (γ 9 4), .ref (γ 9 5), .ref (γ 9 6), .ref (γ 9 7), .ref (γ 9 8), .int p327371, .int p327372, .int p327373, .int p327374, .int p327375, .int p327376, .ref (γ 9 15), .ref (γ 9 16), .ref (γ 9 17), .ref (γ 9 18), .ref (γ 9 19), .ref (γ 9 20), .ref (γ 9 21), .ref (γ 9 22), .int p327377, .int p327378, .int p327379, .int p327380, .int p327381, .ref q327369, .ref (γ 9 29), .int p327382, .ref (γ 9 31), .int p327383, .int p327384, .int p327385, .ref q327370]) := (n335765 q327364 (rn_oa he335753 he335757)).trans he335753
          have he335768 : F335763 (γ 9 3) = .inl (I .boolean, 2000, .inl f327416) := (n335765 (γ 9 3) (rn_ty ht327391 ht327399 (by decide))).trans he335754
          have he335769 : F335763 (γ 9 18) = .inl (I .boolean, 2000, .inl f335734) := (n335765 (γ 9 18) (rn_ty ht327400 ht327399 (by decide))).trans he335755
          have he335770 : F335763 (γ 9 15) = .inl (I .int, 2000, .inl f334604) := (n335765 (γ 9 15) (rn_ty ht327397 ht327399 (by decide))).trans he335756
          have he335771 : F335763 (γ 9 16) = .inl (I .int, 2000, .inl f335752) := (n335765 (γ 9 16) (rn_ty ht327398 ht327399 (by decide))).trans he335758
          have he335772 : F335763 (γ 9 17) = .inl (I .int, 2000, .inl f335766) := e335764
          have hs335773 : rStr γ [] F327363 F335763 := rStr_put hs335759 n335765 ht327399 (by decide)
          have kp335774 : F335763 q327364 = F327363 q327364 := (n335765 q327364 (rn_ty htq327364 ht327399 (by decide))).trans kp335760
          have kp335775 : F335763 (γ 9 3) = F327363 (γ 9 3) := (n335765 (γ 9 3) (rn_ty ht327391 ht327399 (by decide))).trans kp335761
          have bf335766 : gF f335766 (-1) 31 := gF_upd hf335766 bf334607 (gB_w (gBl (show Int32.toInt (-1) = (-1) by decide)) (by decide) (by decide))
          obtain ⟨z335776, hz335776⟩ : ∃ z : Int32, z = g334585 + Int32.ofInt 1 := ⟨_, rfl⟩
          have ez335776 : z335776.toInt = g334585.toInt + 1 := gI_inc hz335776 (by decide) bg334585' (by decide) (by decide)
          have bz335776 : gB z335776 1 2000 := ⟨by omega, by omega⟩
          refine G_iinc (L' := [(2, .int z335776), (0, .ref q327364), (1, .int p327365)]) z335776 0 dr_cX17_colours_56 rfl hz335776.symm (Nat.le_of_ble_eq_true rfl) rfl ?_
          refine G_goto 2 dr_cX17_colours_59 (by decide +kernel) ?_
          have hT335777 : RS D I P327362 F335763 γ el := RS_set hT335762 n335765 ht327399 (by decide) ⟨f335766, he335772, bf335766⟩
          exact ih2_334591 F335763 z335776 (gB_w bz335776 (by decide) (by decide)) hT335777 hs335773 (by rw [ez335776]; rw [cB_of he335768, cB_of he335769]; exact th_u hf335734 hz335730 (by assumption) (by omega) cq334608) kp335774 kp335775 (mz_up ez335776 (Int.le_trans bg334585'.2 (by decide)) hm2_334591)
        · have r335778 : z335730.toInt ≠ 0 := gj_neq hc335743 (show Int32.toInt 0 = 0 by decide)
          have bz335730' : gB z335730 1 1 := gB_t1 bz335730 r335778
          refine G_aload_n 1 dr_cX17_colours_35 rfl ?_
          refine Gp_get 1 hm334596 he335735 dr_cX17_colours_36 (gk_X17 D I) (Nat.le_of_ble_eq_true rfl) wr_7_75 rfl ?_
          refine G_iload_n 0 dr_cX17_colours_39 rfl ?_
          have hT335779 : RS D I P327362 F335731 γ el := RS_set hT334587 n335733 ht327400 (by decide) ⟨f335734, he335739, bf335734⟩
          have hm335780 : (γ 9 1) ∈ P327362 := RS_m hT335779 ht327389 (by decide)
          obtain ⟨f335782, he335781, hg335783⟩ := show rk_13 I γ (F335731 (γ 9 1)) from RS_o hT335779 ht327389
          obtain ⟨q335784, hx335786⟩ : ∃ x, x = γ 11 g334585.toInt.toNat := ⟨_, rfl⟩
          have ht335785 : rKd γ q335784 36 := by rw [hx335786]; exact (hg335783 _ (show g334585.toInt.toNat < 2000 by omega)).2.1
          refine Gp_aald 5 hm335780 he335781 dr_cX17_colours_40 rfl rfl (gB_in bg334585' (by decide) (by decide)) ?_
          rw [show f335782 g334585.toNatClampNeg = some q335784 from (hg335783 _ (show g334585.toInt.toNat < 2000 by omega)).1.trans (by rw [hx335786])]
          change G _ _ _ _ _ _ _ (.ref q335784 :: _) _ _ _
          have hm335787 : q335784 ∈ P327362 := RS_m hT335779 ht335785 (by decide)
          obtain ⟨f335789, he335788, wf335789⟩ := show rk_36 I (F335731 q335784) from RS_o hT335779 ht335785
          refine Gw_callS (As := [.ref q335784]) (gV_ok D I) (cp_1892_SpillForgeModel_count l hl0 D I P327362 F335731 q335784 f335789 hm335787 he335788) dr_cX17_colours_41 ⟨wr_11_12, wr_1_14, wr_11_14, by decide, rfl, (Nat.le_of_ble_eq_true rfl), (Nat.le_of_ble_eq_true rfl)⟩ wr_11_13 (show 0 + 0 ≤ 0 by first | omega | decide) (show 0 + 0 ≤ 0 by first | omega | decide) (Nat.le_of_ble_eq_true rfl) (fun r335793 w335794 dc335790 ds335791 hp335792 => ?_) (fun _ _ _ _ _ z => z.elim)
          obtain ⟨o335795, rfl, rfl, hdc, hds⟩ := hp335792
          have bo335795 := gB_any o335795
          change G _ _ _ _ _ _ _ (.int o335795 :: _) _ _ _
          refine G_widen (cs' := 0) (sl' := 0) (by omega) (by omega) ?_
          refine G_goto 48 dr_cX17_colours_44 (by decide +kernel) ?_
          have hm335796 : (γ 9 16) ∈ P327362 := RS_m hT335779 ht327398 (by decide)
          obtain ⟨f335798, he335797⟩ := show rk_19 I (F335731 (γ 9 16)) from RS_o hT335779 ht327398
          refine Gp_iast 0 hm335796 he335797 dr_cX17_colours_48 rfl (gB_in bg334585' (by decide) (by decide)) (fun F335799 e335800 n335801 => ?_)
          obtain ⟨f335802, hf335802⟩ : ∃ z, z = upd f335798 g334585.toNatClampNeg o335795 := ⟨_, rfl⟩
          rw [← hf335802] at e335800
          have he335803 : F335799 q327364 = .inr (22, [.ref (γ 9 0), .ref (γ 9 1), .ref (γ 9 2), .ref (γ 9 3), .ref (γ 9 4), .ref (γ 9 5), .ref (γ 9 6), .ref (γ 9 7), .ref (γ 9 8), .int p327371, .int p327372, .int p327373, .int p327374, .int p327375, .int p327376, .ref (γ 9 15), .ref (γ 9 16), .ref (γ 9 17), .ref (γ 9 18), .ref (γ 9 19), .ref (γ 9 20), .ref (γ 9 21), .ref (γ 9 22), .int p327377, .int p327378, .int p327379, .int p327380, .int p327381, .ref q327369, .ref (γ 9 29), .int p327382, .ref (γ 9 31), .int p327383, .int p327384, .int p327385, .ref q327370]) := (n335801 q327364 (rn_oa he335735 he335797)).trans he335735
          have he335804 : F335799 (γ 9 3) = .inl (I .boolean, 2000, .inl f327416) := (n335801 (γ 9 3) (rn_ty ht327391 ht327398 (by decide))).trans he335736
          have he335805 : F335799 (γ 9 18) = .inl (I .boolean, 2000, .inl f335734) := (n335801 (γ 9 18) (rn_ty ht327400 ht327398 (by decide))).trans he335739
          have he335806 : F335799 (γ 9 15) = .inl (I .int, 2000, .inl f334604) := (n335801 (γ 9 15) (rn_ty ht327397 ht327398 (by decide))).trans he335737
          have he335807 : F335799 (γ 9 17) = .inl (I .int, 2000, .inl f334607) := (n335801 (γ 9 17) (rn_ty ht327399 ht327398 (by decide))).trans he335738
          have he335808 : F335799 (γ 9 1) = .inl (I (.array .long), 2000, .inr (.inr (.inr (.inr f335782)))) := (n335801 (γ 9 1) (rn_ref_num he335781 he335797)).trans he335781
          have he335809 : F335799 q335784 = .inl (I .long, 32, .inr (.inl f335789)) := (n335801 q335784 (rn_long_num he335788 he335797)).trans he335788
          have he335810 : F335799 (γ 9 16) = .inl (I .int, 2000, .inl f335802) := e335800
          have hs335811 : rStr γ [] F327363 F335799 := rStr_put hs335740 n335801 ht327398 (by decide)
          have kp335812 : F335799 q327364 = F327363 q327364 := (n335801 q327364 (rn_ty htq327364 ht327398 (by decide))).trans kp335741
          have kp335813 : F335799 (γ 9 3) = F327363 (γ 9 3) := (n335801 (γ 9 3) (rn_ty ht327391 ht327398 (by decide))).trans kp335742
          refine G_aload_n 1 dr_cX17_colours_49 rfl ?_
          refine Gp_get 17 hm334596 he335803 dr_cX17_colours_50 (gk_X17 D I) (Nat.le_of_ble_eq_true rfl) wr_7_91 rfl ?_
          refine G_iload_n 0 dr_cX17_colours_53 rfl ?_
          refine G_iconst (-1) dr_cX17_colours_54 (by decide +kernel) ?_
          have hT335814 : RS D I P327362 F335799 γ el := RS_set hT335779 n335801 ht327398 (by decide) ⟨f335802, he335810⟩
          refine Gp_iast 0 hm334605 he335807 dr_cX17_colours_55 rfl (gB_in bg334585' (by decide) (by decide)) (fun F335815 e335816 n335817 => ?_)
          obtain ⟨f335818, hf335818⟩ : ∃ z, z = upd f334607 g334585.toNatClampNeg (-1) := ⟨_, rfl⟩
          rw [← hf335818] at e335816
          have he335819 : F335815 q327364 = .inr (22, [.ref (γ 9 0), .ref (γ 9 1), .ref (γ 9 2), .ref (γ 9 3), .ref (γ 9 4), .ref (γ 9 5), .ref (γ 9 6), .ref (γ 9 7), .ref (γ 9 8), .int p327371, .int p327372, .int p327373, .int p327374, .int p327375, .int p327376, .ref (γ 9 15), .ref (γ 9 16), .ref (γ 9 17), .ref (γ 9 18), .ref (γ 9 19), .ref (γ 9 20), .ref (γ 9 21), .ref (γ 9 22), .int p327377, .int p327378, .int p327379, .int p327380, .int p327381, .ref q327369, .ref (γ 9 29), .int p327382, .ref (γ 9 31), .int p327383, .int p327384, .int p327385, .ref q327370]) := (n335817 q327364 (rn_oa he335803 he335807)).trans he335803
          have he335820 : F335815 (γ 9 3) = .inl (I .boolean, 2000, .inl f327416) := (n335817 (γ 9 3) (rn_ty ht327391 ht327399 (by decide))).trans he335804
          have he335821 : F335815 (γ 9 18) = .inl (I .boolean, 2000, .inl f335734) := (n335817 (γ 9 18) (rn_ty ht327400 ht327399 (by decide))).trans he335805
          have he335822 : F335815 (γ 9 15) = .inl (I .int, 2000, .inl f334604) := (n335817 (γ 9 15) (rn_ty ht327397 ht327399 (by decide))).trans he335806
          have he335823 : F335815 (γ 9 1) = .inl (I (.array .long), 2000, .inr (.inr (.inr (.inr f335782)))) := (n335817 (γ 9 1) (rn_ref_num he335808 he335807)).trans he335808
          have he335824 : F335815 q335784 = .inl (I .long, 32, .inr (.inl f335789)) := (n335817 q335784 (rn_long_num he335809 he335807)).trans he335809
          have he335825 : F335815 (γ 9 16) = .inl (I .int, 2000, .inl f335802) := (n335817 (γ 9 16) (rn_ty ht327398 ht327399 (by decide))).trans he335810
          have he335826 : F335815 (γ 9 17) = .inl (I .int, 2000, .inl f335818) := e335816
          have hs335827 : rStr γ [] F327363 F335815 := rStr_put hs335811 n335817 ht327399 (by decide)
          have kp335828 : F335815 q327364 = F327363 q327364 := (n335817 q327364 (rn_ty htq327364 ht327399 (by decide))).trans kp335812
          have kp335829 : F335815 (γ 9 3) = F327363 (γ 9 3) := (n335817 (γ 9 3) (rn_ty ht327391 ht327399 (by decide))).trans kp335813
          have bf335818 : gF f335818 (-1) 31 := gF_upd hf335818 bf334607 (gB_w (gBl (show Int32.toInt (-1) = (-1) by decide)) (by decide) (by decide))
          obtain ⟨z335830, hz335830⟩ : ∃ z : Int32, z = g334585 + Int32.ofInt 1 := ⟨_, rfl⟩
          have ez335830 : z335830.toInt = g334585.toInt + 1 := gI_inc hz335830 (by decide) bg334585' (by decide) (by decide)
          have bz335830 : gB z335830 1 2000 := ⟨by omega, by omega⟩
          refine G_iinc (L' := [(2, .int z335830), (0, .ref q327364), (1, .int p327365)]) z335830 0 dr_cX17_colours_56 rfl hz335830.symm (Nat.le_of_ble_eq_true rfl) rfl ?_
          refine G_goto 2 dr_cX17_colours_59 (by decide +kernel) ?_
          have hT335831 : RS D I P327362 F335815 γ el := RS_set hT335814 n335817 ht327399 (by decide) ⟨f335818, he335826, bf335818⟩
          exact ih2_334591 F335815 z335830 (gB_w bz335830 (by decide) (by decide)) hT335831 hs335827 (by rw [ez335830]; rw [cB_of he335820, cB_of he335821]; exact th_u hf335734 hz335730 (by assumption) (by omega) cq334608) kp335828 kp335829 (mz_up ez335830 (Int.le_trans bg334585'.2 (by decide)) hm2_334591)
  exact hlp2_334591 (((2001 : Int) - 0).toNat + 1) F327363 0 (gB_w (gBl (show Int32.toInt 0 = 0 by decide)) (by decide) (by decide)) hT (rStr_rf (γ := γ) (W := []) (F := F327363)) (fun m hm => absurd hm (by have qa : Int32.toInt 0 = 0 := (by decide); omega)) rfl rfl (Nat.lt_succ_self _)
