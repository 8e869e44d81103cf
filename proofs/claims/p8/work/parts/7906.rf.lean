theorem dr_cX17_colours_0 : decode cX17_colours 0 = .ok (.iconst 0, 1) := by decide +kernel
theorem dr_cX17_colours_1 : decode cX17_colours 1 = .ok (.istore_n 2, 1) := by decide +kernel
theorem dr_cX17_colours_2 : decode cX17_colours 2 = .ok (.iload_n 2, 1) := by decide +kernel
theorem dr_cX17_colours_3 : decode cX17_colours 3 = .ok (.sipush 2000, 3) := by decide +kernel
theorem dr_cX17_colours_6 : decode cX17_colours 6 = .ok (.if_icmp .ge 56, 3) := by decide +kernel
theorem dr_cX17_colours_62 : decode cX17_colours 62 = .ok (.iconst 0, 1) := by decide +kernel
theorem dr_cX17_colours_63 : decode cX17_colours 63 = .ok (.istore_n 2, 1) := by decide +kernel
theorem dr_cX17_colours_64 : decode cX17_colours 64 = .ok (.aload_n 0, 1) := by decide +kernel
theorem dr_cX17_colours_65 : decode cX17_colours 65 = .ok (.iload_n 1, 1) := by decide +kernel
theorem dr_cX17_colours_66 : decode cX17_colours 66 = .ok (.invokevirtual 215, 3) := by decide +kernel
theorem wr_11_51 : (Jvm.Cond.methodLink "SpillForgeModel" (215 : Nat) ({ cls := "SpillForgeModel", name := "next", desc := "(I)I" } : Jvm.MethodName)) ∈ gw := gw_11 51 rfl rfl
theorem wr_11_54 : (Jvm.Cond.code ({ cls := "SpillForgeModel", name := "next", desc := "(I)I" } : Jvm.MethodName) prog_14_method_20_code (7 : Nat) (Option.some Jvm.ClassFile.FieldType.int)) ∈ gw := gw_11 54 rfl rfl
theorem wr_11_53 : (Jvm.Cond.instanceMethod ({ cls := "SpillForgeModel", name := "next", desc := "(I)I" } : Jvm.MethodName)) ∈ gw := gw_11 53 rfl rfl
theorem wr_p_107 : Cond.selects "SpillForgeModel" ⟨"SpillForgeModel", "next", "(I)I"⟩ ⟨"SpillForgeModel", "next", "(I)I"⟩ ∈ gw := gw_p _ 107 rfl rfl rfl
theorem dr_cX17_colours_69 : decode cX17_colours 69 = .ok (.istore_n 3, 1) := by decide +kernel
theorem dr_cX17_colours_70 : decode cX17_colours 70 = .ok (.iload_n 3, 1) := by decide +kernel
theorem dr_cX17_colours_71 : decode cX17_colours 71 = .ok (.ifCond .lt 71, 3) := by decide +kernel
theorem dr_cX17_colours_142 : decode cX17_colours 142 = .ok (.iconst 0, 1) := by decide +kernel
theorem dr_cX17_colours_143 : decode cX17_colours 143 = .ok (.istore_n 3, 1) := by decide +kernel
theorem dr_cX17_colours_144 : decode cX17_colours 144 = .ok (.iload_n 2, 1) := by decide +kernel
theorem dr_cX17_colours_145 : decode cX17_colours 145 = .ok (.ifCond .le 108, 3) := by decide +kernel
theorem dr_cX17_colours_253 : decode cX17_colours 253 = .ok (.iload_n 3, 1) := by decide +kernel
theorem dr_cX17_colours_254 : decode cX17_colours 254 = .ok (.ireturn, 1) := by decide +kernel
theorem dr_cX17_colours_148 : decode cX17_colours 148 = .ok (.iinc 2 (-1), 3) := by decide +kernel
theorem dr_cX17_colours_151 : decode cX17_colours 151 = .ok (.aload_n 0, 1) := by decide +kernel
theorem dr_cX17_colours_152 : decode cX17_colours 152 = .ok (.getfield 218, 3) := by decide +kernel
theorem wr_7_89 : (Jvm.Cond.fieldLink "SpillForgeModel" (218 : Nat) "SpillForgeModel" "pile" "[I") ∈ gw := gw_7 89 rfl rfl
theorem dr_cX17_colours_155 : decode cX17_colours 155 = .ok (.iload_n 2, 1) := by decide +kernel
theorem dr_cX17_colours_156 : decode cX17_colours 156 = .ok (.iaload, 1) := by decide +kernel
theorem dr_cX17_colours_157 : decode cX17_colours 157 = .ok (.istore 4, 2) := by decide +kernel
theorem dr_cX17_colours_159 : decode cX17_colours 159 = .ok (.lconst 0, 1) := by decide +kernel
theorem dr_cX17_colours_160 : decode cX17_colours 160 = .ok (.lstore 5, 2) := by decide +kernel
theorem dr_cX17_colours_162 : decode cX17_colours 162 = .ok (.iconst 0, 1) := by decide +kernel
theorem dr_cX17_colours_163 : decode cX17_colours 163 = .ok (.istore 7, 2) := by decide +kernel
theorem dr_cX17_colours_165 : decode cX17_colours 165 = .ok (.iload 7, 2) := by decide +kernel
theorem dr_cX17_colours_167 : decode cX17_colours 167 = .ok (.sipush 2000, 3) := by decide +kernel
theorem dr_cX17_colours_170 : decode cX17_colours 170 = .ok (.if_icmp .ge 48, 3) := by decide +kernel
theorem dr_cX17_colours_218 : decode cX17_colours 218 = .ok (.lload 5, 2) := by decide +kernel
theorem dr_cX17_colours_220 : decode cX17_colours 220 = .ok (.ldc2_w 31, 3) := by decide +kernel
theorem dr_cX17_colours_223 : decode cX17_colours 223 = .ok (.lxor, 1) := by decide +kernel
theorem dr_cX17_colours_224 : decode cX17_colours 224 = .ok (.invokestatic 149, 3) := by decide +kernel
theorem dr_cX17_colours_227 : decode cX17_colours 227 = .ok (.istore 7, 2) := by decide +kernel
theorem dr_cX17_colours_229 : decode cX17_colours 229 = .ok (.iload 7, 2) := by decide +kernel
theorem dr_cX17_colours_231 : decode cX17_colours 231 = .ok (.iload_n 1, 1) := by decide +kernel
theorem dr_cX17_colours_232 : decode cX17_colours 232 = .ok (.if_icmp .ge 15, 3) := by decide +kernel
theorem dr_cX17_colours_247 : decode cX17_colours 247 = .ok (.iinc 3 1, 3) := by decide +kernel
theorem dr_cX17_colours_250 : decode cX17_colours 250 = .ok (.goto (-106), 3) := by decide +kernel
theorem dr_cX17_colours_235 : decode cX17_colours 235 = .ok (.aload_n 0, 1) := by decide +kernel
theorem dr_cX17_colours_236 : decode cX17_colours 236 = .ok (.getfield 212, 3) := by decide +kernel
theorem wr_7_91 : (Jvm.Cond.fieldLink "SpillForgeModel" (212 : Nat) "SpillForgeModel" "colour" "[I") ∈ gw := gw_7 91 rfl rfl
theorem dr_cX17_colours_239 : decode cX17_colours 239 = .ok (.iload 4, 2) := by decide +kernel
theorem dr_cX17_colours_241 : decode cX17_colours 241 = .ok (.iload 7, 2) := by decide +kernel
theorem dr_cX17_colours_243 : decode cX17_colours 243 = .ok (.iastore, 1) := by decide +kernel
theorem dr_cX17_colours_244 : decode cX17_colours 244 = .ok (.goto 6, 3) := by decide +kernel
theorem dr_cX17_colours_173 : decode cX17_colours 173 = .ok (.aload_n 0, 1) := by decide +kernel
theorem dr_cX17_colours_174 : decode cX17_colours 174 = .ok (.getfield 212, 3) := by decide +kernel
theorem dr_cX17_colours_177 : decode cX17_colours 177 = .ok (.iload 7, 2) := by decide +kernel
theorem dr_cX17_colours_179 : decode cX17_colours 179 = .ok (.iaload, 1) := by decide +kernel
theorem dr_cX17_colours_180 : decode cX17_colours 180 = .ok (.ifCond .lt 32, 3) := by decide +kernel
theorem dr_cX17_colours_212 : decode cX17_colours 212 = .ok (.iinc 7 1, 3) := by decide +kernel
theorem dr_cX17_colours_215 : decode cX17_colours 215 = .ok (.goto (-50), 3) := by decide +kernel
theorem dr_cX17_colours_183 : decode cX17_colours 183 = .ok (.aload_n 0, 1) := by decide +kernel
theorem dr_cX17_colours_184 : decode cX17_colours 184 = .ok (.getfield 135, 3) := by decide +kernel
theorem dr_cX17_colours_187 : decode cX17_colours 187 = .ok (.iload 4, 2) := by decide +kernel
theorem dr_cX17_colours_189 : decode cX17_colours 189 = .ok (.aaload, 1) := by decide +kernel
theorem dr_cX17_colours_190 : decode cX17_colours 190 = .ok (.iload 7, 2) := by decide +kernel
theorem dr_cX17_colours_192 : decode cX17_colours 192 = .ok (.invokestatic 145, 3) := by decide +kernel
theorem dr_cX17_colours_195 : decode cX17_colours 195 = .ok (.ifCond .eq 17, 3) := by decide +kernel
theorem dr_cX17_colours_198 : decode cX17_colours 198 = .ok (.lload 5, 2) := by decide +kernel
theorem dr_cX17_colours_200 : decode cX17_colours 200 = .ok (.lconst 1, 1) := by decide +kernel
theorem dr_cX17_colours_201 : decode cX17_colours 201 = .ok (.aload_n 0, 1) := by decide +kernel
theorem dr_cX17_colours_202 : decode cX17_colours 202 = .ok (.getfield 212, 3) := by decide +kernel
theorem dr_cX17_colours_205 : decode cX17_colours 205 = .ok (.iload 7, 2) := by decide +kernel
theorem dr_cX17_colours_207 : decode cX17_colours 207 = .ok (.iaload, 1) := by decide +kernel
theorem dr_cX17_colours_208 : decode cX17_colours 208 = .ok (.lshl, 1) := by decide +kernel
theorem dr_cX17_colours_209 : decode cX17_colours 209 = .ok (.lor, 1) := by decide +kernel
theorem dr_cX17_colours_210 : decode cX17_colours 210 = .ok (.lstore 5, 2) := by decide +kernel
theorem dr_cX17_colours_74 : decode cX17_colours 74 = .ok (.aload_n 0, 1) := by decide +kernel
theorem dr_cX17_colours_75 : decode cX17_colours 75 = .ok (.getfield 218, 3) := by decide +kernel
theorem dr_cX17_colours_78 : decode cX17_colours 78 = .ok (.iload_n 2, 1) := by decide +kernel
theorem dr_cX17_colours_79 : decode cX17_colours 79 = .ok (.iload_n 3, 1) := by decide +kernel
theorem dr_cX17_colours_80 : decode cX17_colours 80 = .ok (.iastore, 1) := by decide +kernel
theorem dr_cX17_colours_81 : decode cX17_colours 81 = .ok (.iinc 2 1, 3) := by decide +kernel
theorem dr_cX17_colours_84 : decode cX17_colours 84 = .ok (.aload_n 0, 1) := by decide +kernel
theorem dr_cX17_colours_85 : decode cX17_colours 85 = .ok (.getfield 206, 3) := by decide +kernel
theorem dr_cX17_colours_88 : decode cX17_colours 88 = .ok (.iload_n 3, 1) := by decide +kernel
theorem dr_cX17_colours_89 : decode cX17_colours 89 = .ok (.iconst 0, 1) := by decide +kernel
theorem dr_cX17_colours_90 : decode cX17_colours 90 = .ok (.bastore, 1) := by decide +kernel
theorem dr_cX17_colours_91 : decode cX17_colours 91 = .ok (.iconst 0, 1) := by decide +kernel
theorem dr_cX17_colours_92 : decode cX17_colours 92 = .ok (.istore 4, 2) := by decide +kernel
theorem dr_cX17_colours_94 : decode cX17_colours 94 = .ok (.iload 4, 2) := by decide +kernel
theorem dr_cX17_colours_96 : decode cX17_colours 96 = .ok (.sipush 2000, 3) := by decide +kernel
theorem dr_cX17_colours_99 : decode cX17_colours 99 = .ok (.if_icmp .ge 34, 3) := by decide +kernel
theorem dr_cX17_colours_133 : decode cX17_colours 133 = .ok (.aload_n 0, 1) := by decide +kernel
theorem dr_cX17_colours_134 : decode cX17_colours 134 = .ok (.iload_n 1, 1) := by decide +kernel
theorem dr_cX17_colours_135 : decode cX17_colours 135 = .ok (.invokevirtual 215, 3) := by decide +kernel
theorem dr_cX17_colours_138 : decode cX17_colours 138 = .ok (.istore_n 3, 1) := by decide +kernel
theorem dr_cX17_colours_139 : decode cX17_colours 139 = .ok (.goto (-69), 3) := by decide +kernel
theorem dr_cX17_colours_102 : decode cX17_colours 102 = .ok (.aload_n 0, 1) := by decide +kernel
theorem dr_cX17_colours_103 : decode cX17_colours 103 = .ok (.getfield 135, 3) := by decide +kernel
theorem dr_cX17_colours_106 : decode cX17_colours 106 = .ok (.iload_n 3, 1) := by decide +kernel
theorem dr_cX17_colours_107 : decode cX17_colours 107 = .ok (.aaload, 1) := by decide +kernel
theorem dr_cX17_colours_108 : decode cX17_colours 108 = .ok (.iload 4, 2) := by decide +kernel
theorem dr_cX17_colours_110 : decode cX17_colours 110 = .ok (.invokestatic 145, 3) := by decide +kernel
theorem dr_cX17_colours_113 : decode cX17_colours 113 = .ok (.ifCond .eq 14, 3) := by decide +kernel
theorem dr_cX17_colours_127 : decode cX17_colours 127 = .ok (.iinc 4 1, 3) := by decide +kernel
theorem dr_cX17_colours_130 : decode cX17_colours 130 = .ok (.goto (-36), 3) := by decide +kernel
theorem dr_cX17_colours_116 : decode cX17_colours 116 = .ok (.aload_n 0, 1) := by decide +kernel
theorem dr_cX17_colours_117 : decode cX17_colours 117 = .ok (.getfield 209, 3) := by decide +kernel
theorem dr_cX17_colours_120 : decode cX17_colours 120 = .ok (.iload 4, 2) := by decide +kernel
theorem dr_cX17_colours_122 : decode cX17_colours 122 = .ok (.dup2, 1) := by decide +kernel
theorem dr_cX17_colours_123 : decode cX17_colours 123 = .ok (.iaload, 1) := by decide +kernel
theorem dr_cX17_colours_124 : decode cX17_colours 124 = .ok (.iconst 1, 1) := by decide +kernel
theorem dr_cX17_colours_125 : decode cX17_colours 125 = .ok (.isub, 1) := by decide +kernel
theorem dr_cX17_colours_126 : decode cX17_colours 126 = .ok (.iastore, 1) := by decide +kernel
theorem dr_cX17_colours_9 : decode cX17_colours 9 = .ok (.aload_n 0, 1) := by decide +kernel
theorem dr_cX17_colours_10 : decode cX17_colours 10 = .ok (.getfield 206, 3) := by decide +kernel
theorem dr_cX17_colours_13 : decode cX17_colours 13 = .ok (.iload_n 2, 1) := by decide +kernel
theorem dr_cX17_colours_14 : decode cX17_colours 14 = .ok (.aload_n 0, 1) := by decide +kernel
theorem dr_cX17_colours_15 : decode cX17_colours 15 = .ok (.getfield 131, 3) := by decide +kernel
theorem dr_cX17_colours_18 : decode cX17_colours 18 = .ok (.iload_n 2, 1) := by decide +kernel
theorem dr_cX17_colours_19 : decode cX17_colours 19 = .ok (.baload, 1) := by decide +kernel
theorem dr_cX17_colours_20 : decode cX17_colours 20 = .ok (.bastore, 1) := by decide +kernel
theorem dr_cX17_colours_21 : decode cX17_colours 21 = .ok (.aload_n 0, 1) := by decide +kernel
theorem dr_cX17_colours_22 : decode cX17_colours 22 = .ok (.getfield 209, 3) := by decide +kernel
theorem dr_cX17_colours_25 : decode cX17_colours 25 = .ok (.iload_n 2, 1) := by decide +kernel
theorem dr_cX17_colours_26 : decode cX17_colours 26 = .ok (.aload_n 0, 1) := by decide +kernel
theorem dr_cX17_colours_27 : decode cX17_colours 27 = .ok (.getfield 131, 3) := by decide +kernel
theorem dr_cX17_colours_30 : decode cX17_colours 30 = .ok (.iload_n 2, 1) := by decide +kernel
theorem dr_cX17_colours_31 : decode cX17_colours 31 = .ok (.baload, 1) := by decide +kernel
theorem dr_cX17_colours_32 : decode cX17_colours 32 = .ok (.ifCond .eq 15, 3) := by decide +kernel
theorem dr_cX17_colours_47 : decode cX17_colours 47 = .ok (.iconst 0, 1) := by decide +kernel
theorem dr_cX17_colours_48 : decode cX17_colours 48 = .ok (.iastore, 1) := by decide +kernel
theorem dr_cX17_colours_49 : decode cX17_colours 49 = .ok (.aload_n 0, 1) := by decide +kernel
theorem dr_cX17_colours_50 : decode cX17_colours 50 = .ok (.getfield 212, 3) := by decide +kernel
theorem dr_cX17_colours_53 : decode cX17_colours 53 = .ok (.iload_n 2, 1) := by decide +kernel
theorem dr_cX17_colours_54 : decode cX17_colours 54 = .ok (.iconst (-1), 1) := by decide +kernel
theorem dr_cX17_colours_55 : decode cX17_colours 55 = .ok (.iastore, 1) := by decide +kernel
theorem dr_cX17_colours_56 : decode cX17_colours 56 = .ok (.iinc 2 1, 3) := by decide +kernel
theorem dr_cX17_colours_59 : decode cX17_colours 59 = .ok (.goto (-57), 3) := by decide +kernel
theorem dr_cX17_colours_35 : decode cX17_colours 35 = .ok (.aload_n 0, 1) := by decide +kernel
theorem dr_cX17_colours_36 : decode cX17_colours 36 = .ok (.getfield 135, 3) := by decide +kernel
theorem dr_cX17_colours_39 : decode cX17_colours 39 = .ok (.iload_n 2, 1) := by decide +kernel
theorem dr_cX17_colours_40 : decode cX17_colours 40 = .ok (.aaload, 1) := by decide +kernel
theorem dr_cX17_colours_41 : decode cX17_colours 41 = .ok (.invokestatic 202, 3) := by decide +kernel
theorem dr_cX17_colours_44 : decode cX17_colours 44 = .ok (.goto 4, 3) := by decide +kernel
abbrev ky_336221_SpillForgeModel_next : gKey := (cX17_next, 7, "SpillForgeModel", (some FieldType.int), [], "next", fun _ _ => True)
def pt_336221_SpillForgeModel_next (D : va_G) (I : FieldType → ClassId) (γ el : Nat → Nat → Nat) (P336217 : List Nat) (F336218 : Nat → va_E) (q336219 : Nat) (p336220 : Int32) : Option Value → va_W → Nat → Nat → Prop := fun r w dc ds => ∃ (o336927 : Int32), r = some (.int o336927) ∧ w = va_pl P336217 F336218 ∧ dc ≤ 0 ∧ ds ≤ 0 ∧ gB o336927 (-1) 1999 ∧ (gIp (0 ≤ o336927.toInt) (rSd (cB (F336218 (γ 9 18))) (o336927.toInt : Int).toNat)) ∧ (gIp (o336927.toInt < 0) (∀ m : Nat, ¬ rSd (cB (F336218 (γ 9 18))) m))
set_option maxRecDepth 100000 in
set_option maxHeartbeats 4000000 in
theorem ct_336221_SpillForgeModel_next (l : Launch) (hl0 : l.stackTraces = false) (D : va_G) (I : FieldType → ClassId) (γ el : Nat → Nat → Nat) (P336217 : List Nat) (F336218 : Nat → va_E) (q336219 : Nat) (p336220 : Int32) (hT : RS D I P336217 F336218 γ el) (htq336219 : rKd γ q336219 10) : CtA (gV D I) l yX17_next cX17_next 7 (some FieldType.int) 0 0 0 0 [.ref q336219, .int p336220] (va_pl P336217 F336218) (pt_336221_SpillForgeModel_next D I γ el P336217 F336218 q336219 p336220) gNA := by
  refine CtA_of hl0 (by decide) (Nat.le_of_ble_eq_true rfl) ?_
  have bp336220 := gB_any p336220
  have hm336222 : q336219 ∈ P336217 := RS_m hT htq336219 (by decide)
  obtain ⟨q336224, q336225, p336226, p336227, p336228, p336229, p336230, p336231, p336232, p336233, p336234, p336235, p336236, p336237, p336238, p336239, p336240, he336223, hB336267, ht336241, ht336242, ht336243, ht336244, ht336245, ht336246, ht336247, ht336248, ht336249, ht336250, ht336251, ht336252, ht336253, ht336254, ht336255, ht336256, ht336257, ht336258, ht336259, ht336260, ht336261, ht336262, ht336263, ht336264, hB336268⟩ := show rk_10 γ (F336218 q336219) from RS_o hT htq336219
  have hm336269 : (γ 9 18) ∈ P336217 := RS_m hT ht336255 (by decide)
  obtain ⟨f336271, he336270, bf336271⟩ := show rk_15 I (F336218 (γ 9 18)) from RS_o hT ht336255
  refine G_iconst 0 dr_cX17_next_0 (by decide +kernel) ?_
  refine G_istore_n (L' := [(2, .int 0), (0, .ref q336219), (1, .int p336220)]) dr_cX17_next_1 (Nat.le_of_ble_eq_true rfl) rfl ?_
  have hlp2_336726 : ∀ (n2_336726 : Nat) (g336726 : Int32), gB g336726 0 2000 → ((2001 : Int) - g336726.toInt).toNat < n2_336726 → G (gV D I) l (gRm 0 0 0 0) (gMA (gV D I) (pt_336221_SpillForgeModel_next D I γ el P336217 F336218 q336219 p336220) gNA 0 0) ky_336221_SpillForgeModel_next 2 [(2, .int g336726), (0, .ref q336219), (1, .int p336220)] [] (va_pl P336217 F336218) 0 0 := by
    intro n2_336726
    induction n2_336726 with
    | zero => intro g336726 bg336726 hm2_336726; exact absurd hm2_336726 (Nat.not_lt_zero _)
    | succ n2_336726 ih2_336726 =>
      intro g336726 bg336726 hm2_336726
      refine G_iload_n 0 dr_cX17_next_2 rfl ?_
      refine G_sipush 2000 dr_cX17_next_3 (by decide +kernel) ?_
      refine G_icmp_ge 36 dr_cX17_next_6 (by decide +kernel) (fun hc336728 => ?_) (fun hc336728 => ?_)
      · have r336729 : 2000 ≤ g336726.toInt := gj_leL hc336728 (show Int32.toInt 2000 = 2000 by decide)
        have bg336726' : gB g336726 2000 2000 := ⟨by omega, by omega⟩
        refine G_iconst (-1) dr_cX17_next_36 (by decide +kernel) ?_
        refine G_istore_n (L' := [(2, .int (-1)), (0, .ref q336219), (1, .int p336220)]) dr_cX17_next_37 (Nat.le_of_ble_eq_true rfl) rfl ?_
        refine G_iconst 0 dr_cX17_next_38 (by decide +kernel) ?_
        refine G_istore_n (L' := [(3, .int 0), (2, .int (-1)), (0, .ref q336219), (1, .int p336220)]) dr_cX17_next_39 (Nat.le_of_ble_eq_true rfl) rfl ?_
        have hlp40_336823 : ∀ (n40_336823 : Nat) (g336820 : Int32) (g336821 : Int32), gB g336820 0 2000 → gB g336821 (-1) 1999 → (gIp (g336821.toInt < 0) (∀ m : Nat, (m : Int) < g336820.toInt → ¬ rSd (cB (F336218 (γ 9 18))) m)) → (gIp (0 ≤ g336821.toInt) (rSd (cB (F336218 (γ 9 18))) (g336821.toInt : Int).toNat)) → ((2001 : Int) - g336820.toInt).toNat < n40_336823 → G (gV D I) l (gRm 0 0 0 0) (gMA (gV D I) (pt_336221_SpillForgeModel_next D I γ el P336217 F336218 q336219 p336220) gNA 0 0) ky_336221_SpillForgeModel_next 40 [(3, .int g336820), (2, .int g336821), (0, .ref q336219), (1, .int p336220)] [] (va_pl P336217 F336218) 0 0 := by
          intro n40_336823
          induction n40_336823 with
          | zero => intro g336820 g336821 bg336820 bg336821 x336822 x336823 hm40_336823; exact absurd hm40_336823 (Nat.not_lt_zero _)
          | succ n40_336823 ih40_336823 =>
            intro g336820 g336821 bg336820 bg336821 x336822 x336823 hm40_336823
            refine G_iload_n 0 dr_cX17_next_40 rfl ?_
            refine G_sipush 2000 dr_cX17_next_41 (by decide +kernel) ?_
            refine G_icmp_ge 171 dr_cX17_next_44 (by decide +kernel) (fun hc336825 => ?_) (fun hc336825 => ?_)
            · have r336826 : 2000 ≤ g336820.toInt := gj_leL hc336825 (show Int32.toInt 2000 = 2000 by decide)
              have bg336820' : gB g336820 2000 2000 := ⟨by omega, by omega⟩
              refine G_iload_n 1 dr_cX17_next_171 rfl ?_
              exact G_iretA dr_cX17_next_172 rfl (Nat.le_of_ble_eq_true rfl) (Nat.le_of_ble_eq_true rfl) ⟨g336821, rfl, rfl, (Nat.le_of_ble_eq_true rfl), (Nat.le_of_ble_eq_true rfl), bg336821, x336823, (fun h m hm => x336822 h m (by have := hm.1; omega) hm)⟩
            · have r336827 : g336820.toInt < 2000 := gj_nleL hc336825 (show Int32.toInt 2000 = 2000 by decide)
              have bg336820' : gB g336820 0 1999 := ⟨by omega, by omega⟩
              refine G_aload_n 2 dr_cX17_next_47 rfl ?_
              refine Gp_get 18 hm336222 he336223 dr_cX17_next_48 (gk_X17 D I) (Nat.le_of_ble_eq_true rfl) wr_7_92 rfl ?_
              refine G_iload_n 0 dr_cX17_next_51 rfl ?_
              refine Gp_zald 3 hm336269 he336270 dr_cX17_next_52 rfl (gB_in bg336820' (by decide) (by decide)) (G_nam fun z336828 hz336828 => ?_)
              have bz336828 : gB z336828 0 1 := by rw [hz336828]; exact bf336271 _
              refine G_if_ne 59 dr_cX17_next_53 (by decide +kernel) (fun hc336829 => ?_) (fun hc336829 => ?_)
              · have r336830 : z336828.toInt ≠ 0 := gj_neq hc336829 (show Int32.toInt 0 = 0 by decide)
                have bz336828' : gB z336828 1 1 := ⟨by omega, by omega⟩
                refine G_iload_n 1 dr_cX17_next_59 rfl ?_
                refine G_if_ge 68 dr_cX17_next_60 (by decide +kernel) (fun hc336831 => ?_) (fun hc336831 => ?_)
                · have r336832 : 0 ≤ g336821.toInt := gj_leL hc336831 (show Int32.toInt 0 = 0 by decide)
                  have bg336821' : gB g336821 0 1999 := ⟨by omega, by omega⟩
                  refine G_iload_n 0 dr_cX17_next_68 rfl ?_
                  refine G_bipush 100 dr_cX17_next_69 (by decide +kernel) ?_
                  refine G_icmp_lt 78 dr_cX17_next_71 (by decide +kernel) (fun hc336833 => ?_) (fun hc336833 => ?_)
                  · have r336834 : g336820.toInt < 100 := gj_lt hc336833 (show Int32.toInt 100 = 100 by decide)
                    have bg336820'' : gB g336820 0 99 := ⟨by omega, by omega⟩
                    refine G_iconst 0 dr_cX17_next_78 (by decide +kernel) ?_
                    refine G_istore (L' := [(4, .int 0), (3, .int g336820), (2, .int g336821), (0, .ref q336219), (1, .int p336220)]) dr_cX17_next_79 (Nat.le_of_ble_eq_true rfl) rfl ?_
                    refine G_iload_n 2 dr_cX17_next_81 rfl ?_
                    refine G_bipush 100 dr_cX17_next_82 (by decide +kernel) ?_
                    refine G_icmp_lt 91 dr_cX17_next_84 (by decide +kernel) (fun hc336835 => ?_) (fun hc336835 => ?_)
                    · have r336836 : g336821.toInt < 100 := gj_lt hc336835 (show Int32.toInt 100 = 100 by decide)
                      have bg336821'' : gB g336821 0 99 := ⟨by omega, by omega⟩
                      refine G_iconst 0 dr_cX17_next_91 (by decide +kernel) ?_
                      refine G_istore (L' := [(5, .int 0), (4, .int 0), (3, .int g336820), (2, .int g336821), (0, .ref q336219), (1, .int p336220)]) dr_cX17_next_92 (Nat.le_of_ble_eq_true rfl) rfl ?_
                      refine G_iload 1 dr_cX17_next_94 rfl ?_
                      refine G_if_eq 107 dr_cX17_next_96 (by decide +kernel) (fun _ => ?_) (fun hc => absurd hc (by decide))
                      refine G_aload_n 4 dr_cX17_next_107 rfl ?_
                      refine Gp_get 5 hm336222 he336223 dr_cX17_next_108 (gk_X17 D I) (Nat.le_of_ble_eq_true rfl) wr_7_79 rfl ?_
                      refine G_iload_n 2 dr_cX17_next_111 rfl ?_
                      have hm336837 : (γ 9 5) ∈ P336217 := RS_m hT ht336248 (by decide)
                      obtain ⟨f336839, he336838⟩ := show rk_17 I (F336218 (γ 9 5)) from RS_o hT ht336248
                      refine Gp_iald 0 hm336837 he336838 dr_cX17_next_112 rfl (gB_in bg336820'' (by decide) (by decide)) (G_nam fun z336840 hz336840 => ?_)
                      have bz336840 : gB z336840 (-2147483648) 2147483647 := gB_any z336840
                      refine G_i2l dr_cX17_next_113 (G_namL fun u336841 hu336841 => ?_)
                      refine G_aload_n 4 dr_cX17_next_114 rfl ?_
                      refine Gp_get 16 hm336222 he336223 dr_cX17_next_115 (gk_X17 D I) (Nat.le_of_ble_eq_true rfl) wr_7_90 rfl ?_
                      refine G_iload_n 3 dr_cX17_next_118 rfl ?_
                      have hm336842 : (γ 9 16) ∈ P336217 := RS_m hT ht336253 (by decide)
                      obtain ⟨f336844, he336843⟩ := show rk_19 I (F336218 (γ 9 16)) from RS_o hT ht336253
                      refine Gp_iald 0 hm336842 he336843 dr_cX17_next_119 rfl (gB_in bg336821'' (by decide) (by decide)) (G_nam fun z336845 hz336845 => ?_)
                      have bz336845 : gB z336845 (-2147483648) 2147483647 := gB_any z336845
                      refine G_i2l dr_cX17_next_120 (G_namL fun u336846 hu336846 => ?_)
                      refine G_lmul dr_cX17_next_121 (G_namL fun u336847 hu336847 => ?_)
                      refine G_aload_n 4 dr_cX17_next_122 rfl ?_
                      refine Gp_get 5 hm336222 he336223 dr_cX17_next_123 (gk_X17 D I) (Nat.le_of_ble_eq_true rfl) wr_7_79 rfl ?_
                      refine G_iload_n 3 dr_cX17_next_126 rfl ?_
                      refine Gp_iald 0 hm336837 he336838 dr_cX17_next_127 rfl (gB_in bg336821'' (by decide) (by decide)) (G_nam fun z336848 hz336848 => ?_)
                      have bz336848 : gB z336848 (-2147483648) 2147483647 := gB_any z336848
                      refine G_i2l dr_cX17_next_128 (G_namL fun u336849 hu336849 => ?_)
                      refine G_aload_n 4 dr_cX17_next_129 rfl ?_
                      refine Gp_get 16 hm336222 he336223 dr_cX17_next_130 (gk_X17 D I) (Nat.le_of_ble_eq_true rfl) wr_7_90 rfl ?_
                      refine G_iload_n 2 dr_cX17_next_133 rfl ?_
                      refine Gp_iald 0 hm336842 he336843 dr_cX17_next_134 rfl (gB_in bg336820'' (by decide) (by decide)) (G_nam fun z336850 hz336850 => ?_)
                      have bz336850 : gB z336850 (-2147483648) 2147483647 := gB_any z336850
                      refine G_i2l dr_cX17_next_135 (G_namL fun u336851 hu336851 => ?_)
                      refine G_lmul dr_cX17_next_136 (G_namL fun u336852 hu336852 => ?_)
                      refine G_lcmp dr_cX17_next_137 (G_nam fun z336853 hz336853 => ?_)
                      have bz336853 : gB z336853 (-1) 1 := gB_cmp hz336853
                      refine G_if_ge 145 dr_cX17_next_138 (by decide +kernel) (fun hc336854 => ?_) (fun hc336854 => ?_)
                      · have r336855 : 0 ≤ z336853.toInt := gj_leL hc336854 (show Int32.toInt 0 = 0 by decide)
                        have bz336853' : gB z336853 0 1 := ⟨by omega, by omega⟩
                        refine G_iconst 0 dr_cX17_next_145 (by decide +kernel) ?_
                        refine G_istore (L' := [(6, .int 0), (5, .int 0), (4, .int 0), (3, .int g336820), (2, .int g336821), (0, .ref q336219), (1, .int p336220)]) dr_cX17_next_146 (Nat.le_of_ble_eq_true rfl) rfl ?_
                        refine G_iload 2 dr_cX17_next_148 rfl ?_
                        refine G_if_ne 158 dr_cX17_next_150 (by decide +kernel) (fun hc => absurd hc (by decide)) (fun _ => ?_)
                        refine G_iload 1 dr_cX17_next_153 rfl ?_
                        refine G_if_ne 163 dr_cX17_next_155 (by decide +kernel) (fun hc => absurd hc (by decide)) (fun _ => ?_)
                        refine G_iload 0 dr_cX17_next_158 rfl ?_
                        refine G_if_eq 165 dr_cX17_next_160 (by decide +kernel) (fun _ => ?_) (fun hc => absurd hc (by decide))
                        obtain ⟨z336856, hz336856⟩ : ∃ z : Int32, z = g336820 + Int32.ofInt 1 := ⟨_, rfl⟩
                        have ez336856 : z336856.toInt = g336820.toInt + 1 := gI_inc hz336856 (by decide) bg336820'' (by decide) (by decide)
                        have bz336856 : gB z336856 1 100 := ⟨by omega, by omega⟩
                        refine G_iinc (L' := [(3, .int z336856), (6, .int 0), (5, .int 0), (4, .int 0), (2, .int g336821), (0, .ref q336219), (1, .int p336220)]) z336856 3 dr_cX17_next_165 rfl hz336856.symm (Nat.le_of_ble_eq_true rfl) rfl ?_
                        refine G_goto 40 dr_cX17_next_168 (by decide +kernel) ?_
                        refine G_lv (L' := [(3, .int z336856), (2, .int g336821), (0, .ref q336219), (1, .int p336220)]) [0, 4, 5, 6] rfl ?_
                        exact ih40_336823 z336856 g336821 (gB_w bz336856 (by decide) (by decide)) (gB_w bg336821'' (by decide) (by decide)) (by first | exact fun h => absurd h (by omega) | exact fun h => (by rw [ez336856]; rw [cB_of he336270]; have q := x336822; rw [cB_of he336270] at q; exact nx_0 (q h) hz336828 (by omega) rfl)) x336823 (by omega)
                      · have r336857 : z336853.toInt < 0 := gj_nleL hc336854 (show Int32.toInt 0 = 0 by decide)
                        have bz336853' : gB z336853 (-1) (-1) := ⟨by omega, by omega⟩
                        have lhc336854 := gC_cmpS hz336853 (by omega)
                        refine G_iconst 1 dr_cX17_next_141 (by decide +kernel) ?_
                        refine G_goto 146 dr_cX17_next_142 (by decide +kernel) ?_
                        refine G_istore (L' := [(6, .int 1), (5, .int 0), (4, .int 0), (3, .int g336820), (2, .int g336821), (0, .ref q336219), (1, .int p336220)]) dr_cX17_next_146 (Nat.le_of_ble_eq_true rfl) rfl ?_
                        refine G_iload 2 dr_cX17_next_148 rfl ?_
                        refine G_if_ne 158 dr_cX17_next_150 (by decide +kernel) (fun hc => absurd hc (by decide)) (fun _ => ?_)
                        refine G_iload 1 dr_cX17_next_153 rfl ?_
                        refine G_if_ne 163 dr_cX17_next_155 (by decide +kernel) (fun hc => absurd hc (by decide)) (fun _ => ?_)
                        refine G_iload 0 dr_cX17_next_158 rfl ?_
                        refine G_if_eq 165 dr_cX17_next_160 (by decide +kernel) (fun hc => absurd hc (by decide)) (fun _ => ?_)
                        refine G_iload_n 3 dr_cX17_next_163 rfl ?_
                        refine G_istore_n (L' := [(2, .int g336820), (6, .int 1), (5, .int 0), (4, .int 0), (3, .int g336820), (0, .ref q336219), (1, .int p336220)]) dr_cX17_next_164 (Nat.le_of_ble_eq_true rfl) rfl ?_
                        obtain ⟨z336858, hz336858⟩ : ∃ z : Int32, z = g336820 + Int32.ofInt 1 := ⟨_, rfl⟩
                        have ez336858 : z336858.toInt = g336820.toInt + 1 := gI_inc hz336858 (by decide) bg336820'' (by decide) (by decide)
                        have bz336858 : gB z336858 1 100 := ⟨by omega, by omega⟩
                        refine G_iinc (L' := [(3, .int z336858), (2, .int g336820), (6, .int 1), (5, .int 0), (4, .int 0), (0, .ref q336219), (1, .int p336220)]) z336858 4 dr_cX17_next_165 rfl hz336858.symm (Nat.le_of_ble_eq_true rfl) rfl ?_
                        refine G_goto 40 dr_cX17_next_168 (by decide +kernel) ?_
                        refine G_lv (L' := [(3, .int z336858), (2, .int g336820), (0, .ref q336219), (1, .int p336220)]) [0, 1, 5, 6] rfl ?_
                        exact ih40_336823 z336858 g336820 (gB_w bz336858 (by decide) (by decide)) (gB_w bg336820'' (by decide) (by decide)) (by first | exact fun h => absurd h (by omega) | exact fun h => (by rw [ez336858]; rw [cB_of he336270]; have q := x336822; rw [cB_of he336270] at q; exact nx_0 (q h) hz336828 (by omega) rfl)) (fun _ => by rw [cB_of he336270]; exact sd_of hz336828 (by omega) (by omega) (by omega)) (by omega)
                    · have r336859 : 100 ≤ g336821.toInt := gj_nlt hc336835 (show Int32.toInt 100 = 100 by decide)
                      have bg336821'' : gB g336821 100 1999 := ⟨by omega, by omega⟩
                      refine G_iconst 1 dr_cX17_next_87 (by decide +kernel) ?_
                      refine G_goto 92 dr_cX17_next_88 (by decide +kernel) ?_
                      refine G_istore (L' := [(5, .int 1), (4, .int 0), (3, .int g336820), (2, .int g336821), (0, .ref q336219), (1, .int p336220)]) dr_cX17_next_92 (Nat.le_of_ble_eq_true rfl) rfl ?_
                      refine G_iload 1 dr_cX17_next_94 rfl ?_
                      refine G_if_eq 107 dr_cX17_next_96 (by decide +kernel) (fun _ => ?_) (fun hc => absurd hc (by decide))
                      refine G_aload_n 4 dr_cX17_next_107 rfl ?_
                      refine Gp_get 5 hm336222 he336223 dr_cX17_next_108 (gk_X17 D I) (Nat.le_of_ble_eq_true rfl) wr_7_79 rfl ?_
                      refine G_iload_n 2 dr_cX17_next_111 rfl ?_
                      have hm336860 : (γ 9 5) ∈ P336217 := RS_m hT ht336248 (by decide)
                      obtain ⟨f336862, he336861⟩ := show rk_17 I (F336218 (γ 9 5)) from RS_o hT ht336248
                      refine Gp_iald 0 hm336860 he336861 dr_cX17_next_112 rfl (gB_in bg336820'' (by decide) (by decide)) (G_nam fun z336863 hz336863 => ?_)
                      have bz336863 : gB z336863 (-2147483648) 2147483647 := gB_any z336863
                      refine G_i2l dr_cX17_next_113 (G_namL fun u336864 hu336864 => ?_)
                      refine G_aload_n 4 dr_cX17_next_114 rfl ?_
                      refine Gp_get 16 hm336222 he336223 dr_cX17_next_115 (gk_X17 D I) (Nat.le_of_ble_eq_true rfl) wr_7_90 rfl ?_
                      refine G_iload_n 3 dr_cX17_next_118 rfl ?_
                      have hm336865 : (γ 9 16) ∈ P336217 := RS_m hT ht336253 (by decide)
                      obtain ⟨f336867, he336866⟩ := show rk_19 I (F336218 (γ 9 16)) from RS_o hT ht336253
                      refine Gp_iald 0 hm336865 he336866 dr_cX17_next_119 rfl (gB_in bg336821'' (by decide) (by decide)) (G_nam fun z336868 hz336868 => ?_)
                      have bz336868 : gB z336868 (-2147483648) 2147483647 := gB_any z336868
                      refine G_i2l dr_cX17_next_120 (G_namL fun u336869 hu336869 => ?_)
                      refine G_lmul dr_cX17_next_121 (G_namL fun u336870 hu336870 => ?_)
                      refine G_aload_n 4 dr_cX17_next_122 rfl ?_
                      refine Gp_get 5 hm336222 he336223 dr_cX17_next_123 (gk_X17 D I) (Nat.le_of_ble_eq_true rfl) wr_7_79 rfl ?_
                      refine G_iload_n 3 dr_cX17_next_126 rfl ?_
                      refine Gp_iald 0 hm336860 he336861 dr_cX17_next_127 rfl (gB_in bg336821'' (by decide) (by decide)) (G_nam fun z336871 hz336871 => ?_)
                      have bz336871 : gB z336871 (-2147483648) 2147483647 := gB_any z336871
                      refine G_i2l dr_cX17_next_128 (G_namL fun u336872 hu336872 => ?_)
                      refine G_aload_n 4 dr_cX17_next_129 rfl ?_
                      refine Gp_get 16 hm336222 he336223 dr_cX17_next_130 (gk_X17 D I) (Nat.le_of_ble_eq_true rfl) wr_7_90 rfl ?_
                      refine G_iload_n 2 dr_cX17_next_133 rfl ?_
                      refine Gp_iald 0 hm336865 he336866 dr_cX17_next_134 rfl (gB_in bg336820'' (by decide) (by decide)) (G_nam fun z336873 hz336873 => ?_)
                      have bz336873 : gB z336873 (-2147483648) 2147483647 := gB_any z336873
                      refine G_i2l dr_cX17_next_135 (G_namL fun u336874 hu336874 => ?_)
                      refine G_lmul dr_cX17_next_136 (G_namL fun u336875 hu336875 => ?_)
                      refine G_lcmp dr_cX17_next_137 (G_nam fun z336876 hz336876 => ?_)
                      have bz336876 : gB z336876 (-1) 1 := gB_cmp hz336876
                      refine G_if_ge 145 dr_cX17_next_138 (by decide +kernel) (fun hc336877 => ?_) (fun hc336877 => ?_)
                      · have r336878 : 0 ≤ z336876.toInt := gj_leL hc336877 (show Int32.toInt 0 = 0 by decide)
                        have bz336876' : gB z336876 0 1 := ⟨by omega, by omega⟩
                        refine G_iconst 0 dr_cX17_next_145 (by decide +kernel) ?_
                        refine G_istore (L' := [(6, .int 0), (5, .int 1), (4, .int 0), (3, .int g336820), (2, .int g336821), (0, .ref q336219), (1, .int p336220)]) dr_cX17_next_146 (Nat.le_of_ble_eq_true rfl) rfl ?_
                        refine G_iload 2 dr_cX17_next_148 rfl ?_
                        refine G_if_ne 158 dr_cX17_next_150 (by decide +kernel) (fun hc => absurd hc (by decide)) (fun _ => ?_)
                        refine G_iload 1 dr_cX17_next_153 rfl ?_
                        refine G_if_ne 163 dr_cX17_next_155 (by decide +kernel) (fun _ => ?_) (fun hc => absurd hc (by decide))
                        refine G_iload_n 3 dr_cX17_next_163 rfl ?_
                        refine G_istore_n (L' := [(2, .int g336820), (6, .int 0), (5, .int 1), (4, .int 0), (3, .int g336820), (0, .ref q336219), (1, .int p336220)]) dr_cX17_next_164 (Nat.le_of_ble_eq_true rfl) rfl ?_
                        obtain ⟨z336879, hz336879⟩ : ∃ z : Int32, z = g336820 + Int32.ofInt 1 := ⟨_, rfl⟩
                        have ez336879 : z336879.toInt = g336820.toInt + 1 := gI_inc hz336879 (by decide) bg336820'' (by decide) (by decide)
                        have bz336879 : gB z336879 1 100 := ⟨by omega, by omega⟩
                        refine G_iinc (L' := [(3, .int z336879), (2, .int g336820), (6, .int 0), (5, .int 1), (4, .int 0), (0, .ref q336219), (1, .int p336220)]) z336879 4 dr_cX17_next_165 rfl hz336879.symm (Nat.le_of_ble_eq_true rfl) rfl ?_
                        refine G_goto 40 dr_cX17_next_168 (by decide +kernel) ?_
                        refine G_lv (L' := [(3, .int z336879), (2, .int g336820), (0, .ref q336219), (1, .int p336220)]) [0, 1, 5, 6] rfl ?_
                        exact ih40_336823 z336879 g336820 (gB_w bz336879 (by decide) (by decide)) (gB_w bg336820'' (by decide) (by decide)) (by first | exact fun h => absurd h (by omega) | exact fun h => (by rw [ez336879]; rw [cB_of he336270]; have q := x336822; rw [cB_of he336270] at q; exact nx_0 (q h) hz336828 (by omega) rfl)) (fun _ => by rw [cB_of he336270]; exact sd_of hz336828 (by omega) (by omega) (by omega)) (by omega)
                      · have r336880 : z336876.toInt < 0 := gj_nleL hc336877 (show Int32.toInt 0 = 0 by decide)
                        have bz336876' : gB z336876 (-1) (-1) := ⟨by omega, by omega⟩
                        have lhc336877 := gC_cmpS hz336876 (by omega)
                        refine G_iconst 1 dr_cX17_next_141 (by decide +kernel) ?_
                        refine G_goto 146 dr_cX17_next_142 (by decide +kernel) ?_
                        refine G_istore (L' := [(6, .int 1), (5, .int 1), (4, .int 0), (3, .int g336820), (2, .int g336821), (0, .ref q336219), (1, .int p336220)]) dr_cX17_next_146 (Nat.le_of_ble_eq_true rfl) rfl ?_
                        refine G_iload 2 dr_cX17_next_148 rfl ?_
                        refine G_if_ne 158 dr_cX17_next_150 (by decide +kernel) (fun hc => absurd hc (by decide)) (fun _ => ?_)
                        refine G_iload 1 dr_cX17_next_153 rfl ?_
                        refine G_if_ne 163 dr_cX17_next_155 (by decide +kernel) (fun _ => ?_) (fun hc => absurd hc (by decide))
                        refine G_iload_n 3 dr_cX17_next_163 rfl ?_
                        refine G_istore_n (L' := [(2, .int g336820), (6, .int 1), (5, .int 1), (4, .int 0), (3, .int g336820), (0, .ref q336219), (1, .int p336220)]) dr_cX17_next_164 (Nat.le_of_ble_eq_true rfl) rfl ?_
                        obtain ⟨z336881, hz336881⟩ : ∃ z : Int32, z = g336820 + Int32.ofInt 1 := ⟨_, rfl⟩
                        have ez336881 : z336881.toInt = g336820.toInt + 1 := gI_inc hz336881 (by decide) bg336820'' (by decide) (by decide)
                        have bz336881 : gB z336881 1 100 := ⟨by omega, by omega⟩
                        refine G_iinc (L' := [(3, .int z336881), (2, .int g336820), (6, .int 1), (5, .int 1), (4, .int 0), (0, .ref q336219), (1, .int p336220)]) z336881 4 dr_cX17_next_165 rfl hz336881.symm (Nat.le_of_ble_eq_true rfl) rfl ?_
                        refine G_goto 40 dr_cX17_next_168 (by decide +kernel) ?_
                        refine G_lv (L' := [(3, .int z336881), (2, .int g336820), (0, .ref q336219), (1, .int p336220)]) [0, 1, 5, 6] rfl ?_
                        exact ih40_336823 z336881 g336820 (gB_w bz336881 (by decide) (by decide)) (gB_w bg336820'' (by decide) (by decide)) (by first | exact fun h => absurd h (by omega) | exact fun h => (by rw [ez336881]; rw [cB_of he336270]; have q := x336822; rw [cB_of he336270] at q; exact nx_0 (q h) hz336828 (by omega) rfl)) (fun _ => by rw [cB_of he336270]; exact sd_of hz336828 (by omega) (by omega) (by omega)) (by omega)
                  · have r336882 : 100 ≤ g336820.toInt := gj_nlt hc336833 (show Int32.toInt 100 = 100 by decide)
                    have bg336820'' : gB g336820 100 1999 := ⟨by omega, by omega⟩
                    refine G_iconst 1 dr_cX17_next_74 (by decide +kernel) ?_
                    refine G_goto 79 dr_cX17_next_75 (by decide +kernel) ?_
                    refine G_istore (L' := [(4, .int 1), (3, .int g336820), (2, .int g336821), (0, .ref q336219), (1, .int p336220)]) dr_cX17_next_79 (Nat.le_of_ble_eq_true rfl) rfl ?_
                    refine G_iload_n 2 dr_cX17_next_81 rfl ?_
                    refine G_bipush 100 dr_cX17_next_82 (by decide +kernel) ?_
                    refine G_icmp_lt 91 dr_cX17_next_84 (by decide +kernel) (fun hc336883 => ?_) (fun hc336883 => ?_)
                    · have r336884 : g336821.toInt < 100 := gj_lt hc336883 (show Int32.toInt 100 = 100 by decide)
                      have bg336821'' : gB g336821 0 99 := ⟨by omega, by omega⟩
                      refine G_iconst 0 dr_cX17_next_91 (by decide +kernel) ?_
                      refine G_istore (L' := [(5, .int 0), (4, .int 1), (3, .int g336820), (2, .int g336821), (0, .ref q336219), (1, .int p336220)]) dr_cX17_next_92 (Nat.le_of_ble_eq_true rfl) rfl ?_
                      refine G_iload 1 dr_cX17_next_94 rfl ?_
                      refine G_if_eq 107 dr_cX17_next_96 (by decide +kernel) (fun hc => absurd hc (by decide)) (fun _ => ?_)
                      refine G_iload 0 dr_cX17_next_99 rfl ?_
                      refine G_if_ne 107 dr_cX17_next_101 (by decide +kernel) (fun hc => absurd hc (by decide)) (fun _ => ?_)
                      refine G_goto 165 dr_cX17_next_104 (by decide +kernel) ?_
                      obtain ⟨z336885, hz336885⟩ : ∃ z : Int32, z = g336820 + Int32.ofInt 1 := ⟨_, rfl⟩
                      have ez336885 : z336885.toInt = g336820.toInt + 1 := gI_inc hz336885 (by decide) bg336820'' (by decide) (by decide)
                      have bz336885 : gB z336885 101 2000 := ⟨by omega, by omega⟩
                      refine G_iinc (L' := [(3, .int z336885), (5, .int 0), (4, .int 1), (2, .int g336821), (0, .ref q336219), (1, .int p336220)]) z336885 2 dr_cX17_next_165 rfl hz336885.symm (Nat.le_of_ble_eq_true rfl) rfl ?_
                      refine G_goto 40 dr_cX17_next_168 (by decide +kernel) ?_
                      refine G_lv (L' := [(3, .int z336885), (2, .int g336821), (0, .ref q336219), (1, .int p336220)]) [0, 3, 4, 5] rfl ?_
                      exact ih40_336823 z336885 g336821 (gB_w bz336885 (by decide) (by decide)) (gB_w bg336821'' (by decide) (by decide)) (by first | exact fun h => absurd h (by omega) | exact fun h => (by rw [ez336885]; rw [cB_of he336270]; have q := x336822; rw [cB_of he336270] at q; exact nx_0 (q h) hz336828 (by omega) rfl)) x336823 (by omega)
                    · have r336886 : 100 ≤ g336821.toInt := gj_nlt hc336883 (show Int32.toInt 100 = 100 by decide)
                      have bg336821'' : gB g336821 100 1999 := ⟨by omega, by omega⟩
                      refine G_iconst 1 dr_cX17_next_87 (by decide +kernel) ?_
                      refine G_goto 92 dr_cX17_next_88 (by decide +kernel) ?_
                      refine G_istore (L' := [(5, .int 1), (4, .int 1), (3, .int g336820), (2, .int g336821), (0, .ref q336219), (1, .int p336220)]) dr_cX17_next_92 (Nat.le_of_ble_eq_true rfl) rfl ?_
                      refine G_iload 1 dr_cX17_next_94 rfl ?_
                      refine G_if_eq 107 dr_cX17_next_96 (by decide +kernel) (fun hc => absurd hc (by decide)) (fun _ => ?_)
                      refine G_iload 0 dr_cX17_next_99 rfl ?_
                      refine G_if_ne 107 dr_cX17_next_101 (by decide +kernel) (fun _ => ?_) (fun hc => absurd hc (by decide))
                      refine G_aload_n 4 dr_cX17_next_107 rfl ?_
                      refine Gp_get 5 hm336222 he336223 dr_cX17_next_108 (gk_X17 D I) (Nat.le_of_ble_eq_true rfl) wr_7_79 rfl ?_
                      refine G_iload_n 2 dr_cX17_next_111 rfl ?_
                      have hm336887 : (γ 9 5) ∈ P336217 := RS_m hT ht336248 (by decide)
                      obtain ⟨f336889, he336888⟩ := show rk_17 I (F336218 (γ 9 5)) from RS_o hT ht336248
                      refine Gp_iald 0 hm336887 he336888 dr_cX17_next_112 rfl (gB_in bg336820'' (by decide) (by decide)) (G_nam fun z336890 hz336890 => ?_)
                      have bz336890 : gB z336890 (-2147483648) 2147483647 := gB_any z336890
                      refine G_i2l dr_cX17_next_113 (G_namL fun u336891 hu336891 => ?_)
                      refine G_aload_n 4 dr_cX17_next_114 rfl ?_
                      refine Gp_get 16 hm336222 he336223 dr_cX17_next_115 (gk_X17 D I) (Nat.le_of_ble_eq_true rfl) wr_7_90 rfl ?_
                      refine G_iload_n 3 dr_cX17_next_118 rfl ?_
                      have hm336892 : (γ 9 16) ∈ P336217 := RS_m hT ht336253 (by decide)
                      obtain ⟨f336894, he336893⟩ := show rk_19 I (F336218 (γ 9 16)) from RS_o hT ht336253
                      refine Gp_iald 0 hm336892 he336893 dr_cX17_next_119 rfl (gB_in bg336821'' (by decide) (by decide)) (G_nam fun z336895 hz336895 => ?_)
                      have bz336895 : gB z336895 (-2147483648) 2147483647 := gB_any z336895
                      refine G_i2l dr_cX17_next_120 (G_namL fun u336896 hu336896 => ?_)
                      refine G_lmul dr_cX17_next_121 (G_namL fun u336897 hu336897 => ?_)
                      refine G_aload_n 4 dr_cX17_next_122 rfl ?_
                      refine Gp_get 5 hm336222 he336223 dr_cX17_next_123 (gk_X17 D I) (Nat.le_of_ble_eq_true rfl) wr_7_79 rfl ?_
                      refine G_iload_n 3 dr_cX17_next_126 rfl ?_
                      refine Gp_iald 0 hm336887 he336888 dr_cX17_next_127 rfl (gB_in bg336821'' (by decide) (by decide)) (G_nam fun z336898 hz336898 => ?_)
                      have bz336898 : gB z336898 (-2147483648) 2147483647 := gB_any z336898
                      refine G_i2l dr_cX17_next_128 (G_namL fun u336899 hu336899 => ?_)
                      refine G_aload_n 4 dr_cX17_next_129 rfl ?_
                      refine Gp_get 16 hm336222 he336223 dr_cX17_next_130 (gk_X17 D I) (Nat.le_of_ble_eq_true rfl) wr_7_90 rfl ?_
                      refine G_iload_n 2 dr_cX17_next_133 rfl ?_
                      refine Gp_iald 0 hm336892 he336893 dr_cX17_next_134 rfl (gB_in bg336820'' (by decide) (by decide)) (G_nam fun z336900 hz336900 => ?_)
                      have bz336900 : gB z336900 (-2147483648) 2147483647 := gB_any z336900
                      refine G_i2l dr_cX17_next_135 (G_namL fun u336901 hu336901 => ?_)
                      refine G_lmul dr_cX17_next_136 (G_namL fun u336902 hu336902 => ?_)
                      refine G_lcmp dr_cX17_next_137 (G_nam fun z336903 hz336903 => ?_)
                      have bz336903 : gB z336903 (-1) 1 := gB_cmp hz336903
                      refine G_if_ge 145 dr_cX17_next_138 (by decide +kernel) (fun hc336904 => ?_) (fun hc336904 => ?_)
                      · have r336905 : 0 ≤ z336903.toInt := gj_leL hc336904 (show Int32.toInt 0 = 0 by decide)
                        have bz336903' : gB z336903 0 1 := ⟨by omega, by omega⟩
                        refine G_iconst 0 dr_cX17_next_145 (by decide +kernel) ?_
                        refine G_istore (L' := [(6, .int 0), (5, .int 1), (4, .int 1), (3, .int g336820), (2, .int g336821), (0, .ref q336219), (1, .int p336220)]) dr_cX17_next_146 (Nat.le_of_ble_eq_true rfl) rfl ?_
                        refine G_iload 2 dr_cX17_next_148 rfl ?_
                        refine G_if_ne 158 dr_cX17_next_150 (by decide +kernel) (fun _ => ?_) (fun hc => absurd hc (by decide))
                        refine G_iload 0 dr_cX17_next_158 rfl ?_
                        refine G_if_eq 165 dr_cX17_next_160 (by decide +kernel) (fun _ => ?_) (fun hc => absurd hc (by decide))
                        obtain ⟨z336906, hz336906⟩ : ∃ z : Int32, z = g336820 + Int32.ofInt 1 := ⟨_, rfl⟩
                        have ez336906 : z336906.toInt = g336820.toInt + 1 := gI_inc hz336906 (by decide) bg336820'' (by decide) (by decide)
                        have bz336906 : gB z336906 101 2000 := ⟨by omega, by omega⟩
                        refine G_iinc (L' := [(3, .int z336906), (6, .int 0), (5, .int 1), (4, .int 1), (2, .int g336821), (0, .ref q336219), (1, .int p336220)]) z336906 3 dr_cX17_next_165 rfl hz336906.symm (Nat.le_of_ble_eq_true rfl) rfl ?_
                        refine G_goto 40 dr_cX17_next_168 (by decide +kernel) ?_
                        refine G_lv (L' := [(3, .int z336906), (2, .int g336821), (0, .ref q336219), (1, .int p336220)]) [0, 4, 5, 6] rfl ?_
                        exact ih40_336823 z336906 g336821 (gB_w bz336906 (by decide) (by decide)) (gB_w bg336821'' (by decide) (by decide)) (by first | exact fun h => absurd h (by omega) | exact fun h => (by rw [ez336906]; rw [cB_of he336270]; have q := x336822; rw [cB_of he336270] at q; exact nx_0 (q h) hz336828 (by omega) rfl)) x336823 (by omega)
                      · have r336907 : z336903.toInt < 0 := gj_nleL hc336904 (show Int32.toInt 0 = 0 by decide)
                        have bz336903' : gB z336903 (-1) (-1) := ⟨by omega, by omega⟩
                        have lhc336904 := gC_cmpS hz336903 (by omega)
                        refine G_iconst 1 dr_cX17_next_141 (by decide +kernel) ?_
                        refine G_goto 146 dr_cX17_next_142 (by decide +kernel) ?_
                        refine G_istore (L' := [(6, .int 1), (5, .int 1), (4, .int 1), (3, .int g336820), (2, .int g336821), (0, .ref q336219), (1, .int p336220)]) dr_cX17_next_146 (Nat.le_of_ble_eq_true rfl) rfl ?_
                        refine G_iload 2 dr_cX17_next_148 rfl ?_
                        refine G_if_ne 158 dr_cX17_next_150 (by decide +kernel) (fun _ => ?_) (fun hc => absurd hc (by decide))
                        refine G_iload 0 dr_cX17_next_158 rfl ?_
                        refine G_if_eq 165 dr_cX17_next_160 (by decide +kernel) (fun hc => absurd hc (by decide)) (fun _ => ?_)
                        refine G_iload_n 3 dr_cX17_next_163 rfl ?_
                        refine G_istore_n (L' := [(2, .int g336820), (6, .int 1), (5, .int 1), (4, .int 1), (3, .int g336820), (0, .ref q336219), (1, .int p336220)]) dr_cX17_next_164 (Nat.le_of_ble_eq_true rfl) rfl ?_
                        obtain ⟨z336908, hz336908⟩ : ∃ z : Int32, z = g336820 + Int32.ofInt 1 := ⟨_, rfl⟩
                        have ez336908 : z336908.toInt = g336820.toInt + 1 := gI_inc hz336908 (by decide) bg336820'' (by decide) (by decide)
                        have bz336908 : gB z336908 101 2000 := ⟨by omega, by omega⟩
                        refine G_iinc (L' := [(3, .int z336908), (2, .int g336820), (6, .int 1), (5, .int 1), (4, .int 1), (0, .ref q336219), (1, .int p336220)]) z336908 4 dr_cX17_next_165 rfl hz336908.symm (Nat.le_of_ble_eq_true rfl) rfl ?_
                        refine G_goto 40 dr_cX17_next_168 (by decide +kernel) ?_
                        refine G_lv (L' := [(3, .int z336908), (2, .int g336820), (0, .ref q336219), (1, .int p336220)]) [0, 1, 5, 6] rfl ?_
                        exact ih40_336823 z336908 g336820 (gB_w bz336908 (by decide) (by decide)) (gB_w bg336820'' (by decide) (by decide)) (by first | exact fun h => absurd h (by omega) | exact fun h => (by rw [ez336908]; rw [cB_of he336270]; have q := x336822; rw [cB_of he336270] at q; exact nx_0 (q h) hz336828 (by omega) rfl)) (fun _ => by rw [cB_of he336270]; exact sd_of hz336828 (by omega) (by omega) (by omega)) (by omega)
                · have r336909 : g336821.toInt < 0 := gj_nleL hc336831 (show Int32.toInt 0 = 0 by decide)
                  have bg336821' : gB g336821 (-1) (-1) := ⟨by omega, by omega⟩
                  refine G_iload_n 0 dr_cX17_next_63 rfl ?_
                  refine G_istore_n (L' := [(2, .int g336820), (3, .int g336820), (0, .ref q336219), (1, .int p336220)]) dr_cX17_next_64 (Nat.le_of_ble_eq_true rfl) rfl ?_
                  refine G_goto 165 dr_cX17_next_65 (by decide +kernel) ?_
                  obtain ⟨z336910, hz336910⟩ : ∃ z : Int32, z = g336820 + Int32.ofInt 1 := ⟨_, rfl⟩
                  have ez336910 : z336910.toInt = g336820.toInt + 1 := gI_inc hz336910 (by decide) bg336820' (by decide) (by decide)
                  have bz336910 : gB z336910 1 2000 := ⟨by omega, by omega⟩
                  refine G_iinc (L' := [(3, .int z336910), (2, .int g336820), (0, .ref q336219), (1, .int p336220)]) z336910 1 dr_cX17_next_165 rfl hz336910.symm (Nat.le_of_ble_eq_true rfl) rfl ?_
                  refine G_goto 40 dr_cX17_next_168 (by decide +kernel) ?_
                  exact ih40_336823 z336910 g336820 (gB_w bz336910 (by decide) (by decide)) (gB_w bg336820' (by decide) (by decide)) (by first | exact fun h => absurd h (by omega) | exact fun h => (by rw [ez336910]; rw [cB_of he336270]; have q := x336822; rw [cB_of he336270] at q; exact nx_0 (q h) hz336828 (by omega) rfl)) (fun _ => by rw [cB_of he336270]; exact sd_of hz336828 (by omega) (by omega) (by omega)) (by omega)
              · have r336911 : z336828.toInt = 0 := gj_eq hc336829 (show Int32.toInt 0 = 0 by decide)
                have bz336828' : gB z336828 0 0 := ⟨by omega, by omega⟩
                refine G_goto 165 dr_cX17_next_56 (by decide +kernel) ?_
                obtain ⟨z336912, hz336912⟩ : ∃ z : Int32, z = g336820 + Int32.ofInt 1 := ⟨_, rfl⟩
                have ez336912 : z336912.toInt = g336820.toInt + 1 := gI_inc hz336912 (by decide) bg336820' (by decide) (by decide)
                have bz336912 : gB z336912 1 2000 := ⟨by omega, by omega⟩
                refine G_iinc (L' := [(3, .int z336912), (2, .int g336821), (0, .ref q336219), (1, .int p336220)]) z336912 0 dr_cX17_next_165 rfl hz336912.symm (Nat.le_of_ble_eq_true rfl) rfl ?_
                refine G_goto 40 dr_cX17_next_168 (by decide +kernel) ?_
                exact ih40_336823 z336912 g336821 (gB_w bz336912 (by decide) (by decide)) bg336821 (by first | exact fun h => absurd h (by omega) | exact fun h => (by rw [ez336912]; rw [cB_of he336270]; have q := x336822; rw [cB_of he336270] at q; exact nx_0 (q h) hz336828 (by omega) rfl)) x336823 (by omega)
        exact hlp40_336823 (((2001 : Int) - 0).toNat + 1) 0 (-1) (gB_w (gBl (show Int32.toInt 0 = 0 by decide)) (by decide) (by decide)) (gB_w (gBl (show Int32.toInt (-1) = (-1) by decide)) (by decide) (by decide)) (fun _ m hm => absurd hm (by have qa : Int32.toInt 0 = 0 := (by decide); omega)) (fun h => absurd h (by decide)) (Nat.lt_succ_self _)
      · have r336913 : g336726.toInt < 2000 := gj_nleL hc336728 (show Int32.toInt 2000 = 2000 by decide)
        have bg336726' : gB g336726 0 1999 := ⟨by omega, by omega⟩
        refine G_aload_n 1 dr_cX17_next_9 rfl ?_
        refine Gp_get 18 hm336222 he336223 dr_cX17_next_10 (gk_X17 D I) (Nat.le_of_ble_eq_true rfl) wr_7_92 rfl ?_
        refine G_iload_n 0 dr_cX17_next_13 rfl ?_
        refine Gp_zald 3 hm336269 he336270 dr_cX17_next_14 rfl (gB_in bg336726' (by decide) (by decide)) (G_nam fun z336914 hz336914 => ?_)
        have bz336914 : gB z336914 0 1 := by rw [hz336914]; exact bf336271 _
        refine G_if_eq 30 dr_cX17_next_15 (by decide +kernel) (fun hc336915 => ?_) (fun hc336915 => ?_)
        · have r336916 : z336914.toInt = 0 := gj_eq hc336915 (show Int32.toInt 0 = 0 by decide)
          have bz336914' : gB z336914 0 0 := ⟨by omega, by omega⟩
          obtain ⟨z336917, hz336917⟩ : ∃ z : Int32, z = g336726 + Int32.ofInt 1 := ⟨_, rfl⟩
          have ez336917 : z336917.toInt = g336726.toInt + 1 := gI_inc hz336917 (by decide) bg336726' (by decide) (by decide)
          have bz336917 : gB z336917 1 2000 := ⟨by omega, by omega⟩
          refine G_iinc (L' := [(2, .int z336917), (0, .ref q336219), (1, .int p336220)]) z336917 0 dr_cX17_next_30 rfl hz336917.symm (Nat.le_of_ble_eq_true rfl) rfl ?_
          refine G_goto 2 dr_cX17_next_33 (by decide +kernel) ?_
          exact ih2_336726 z336917 (gB_w bz336917 (by decide) (by decide)) (by omega)
        · have r336918 : z336914.toInt ≠ 0 := gj_neq hc336915 (show Int32.toInt 0 = 0 by decide)
          have bz336914' : gB z336914 1 1 := ⟨by omega, by omega⟩
          refine G_aload_n 1 dr_cX17_next_18 rfl ?_
          refine Gp_get 16 hm336222 he336223 dr_cX17_next_19 (gk_X17 D I) (Nat.le_of_ble_eq_true rfl) wr_7_90 rfl ?_
          refine G_iload_n 0 dr_cX17_next_22 rfl ?_
          have hm336919 : (γ 9 16) ∈ P336217 := RS_m hT ht336253 (by decide)
          obtain ⟨f336921, he336920⟩ := show rk_19 I (F336218 (γ 9 16)) from RS_o hT ht336253
          refine Gp_iald 0 hm336919 he336920 dr_cX17_next_23 rfl (gB_in bg336726' (by decide) (by decide)) (G_nam fun z336922 hz336922 => ?_)
          have bz336922 : gB z336922 (-2147483648) 2147483647 := gB_any z336922
          refine G_iload_n 2 dr_cX17_next_24 rfl ?_
          refine G_icmp_ge 30 dr_cX17_next_25 (by decide +kernel) (fun hc336923 => ?_) (fun hc336923 => ?_)
          · have r336924 : p336220.toInt ≤ z336922.toInt := gC_le hc336923
            obtain ⟨z336925, hz336925⟩ : ∃ z : Int32, z = g336726 + Int32.ofInt 1 := ⟨_, rfl⟩
            have ez336925 : z336925.toInt = g336726.toInt + 1 := gI_inc hz336925 (by decide) bg336726' (by decide) (by decide)
            have bz336925 : gB z336925 1 2000 := ⟨by omega, by omega⟩
            refine G_iinc (L' := [(2, .int z336925), (0, .ref q336219), (1, .int p336220)]) z336925 0 dr_cX17_next_30 rfl hz336925.symm (Nat.le_of_ble_eq_true rfl) rfl ?_
            refine G_goto 2 dr_cX17_next_33 (by decide +kernel) ?_
            exact ih2_336726 z336925 (gB_w bz336925 (by decide) (by decide)) (by omega)
          · have r336926 : z336922.toInt < p336220.toInt := gC_nle hc336923
            have bz336922' : gB z336922 (-2147483648) 2147483646 := ⟨by omega, by omega⟩
            have bp336220' : gB p336220 (-2147483647) 2147483647 := ⟨by omega, by omega⟩
            refine G_iload_n 0 dr_cX17_next_28 rfl ?_
            exact G_iretA dr_cX17_next_29 rfl (Nat.le_of_ble_eq_true rfl) (Nat.le_of_ble_eq_true rfl) ⟨g336726, rfl, rfl, (Nat.le_of_ble_eq_true rfl), (Nat.le_of_ble_eq_true rfl), (gB_w bg336726' (by decide) (by decide)), (fun _ => by rw [cB_of he336270]; exact sd_of hz336914 (by omega) (by omega) (by omega)), (fun h => absurd h (by omega))⟩
  exact hlp2_336726 (((2001 : Int) - 0).toNat + 1) 0 (gB_w (gBl (show Int32.toInt 0 = 0 by decide)) (by decide) (by decide)) (Nat.lt_succ_self _)
abbrev ky_335425_SpillForgeModel_colours : gKey := (cX17_colours, 8, "SpillForgeModel", (some FieldType.int), [], "colours", fun _ _ => True)
def pt_335425_SpillForgeModel_colours (D : va_G) (I : FieldType → ClassId) (γ el : Nat → Nat → Nat) (P335421 : List Nat) (F335422 : Nat → va_E) (q335423 : Nat) (p335424 : Int32) : Option Value → va_W → Nat → Nat → Prop := fun r w dc ds => ∃ (F344060 : Nat → va_E) (o344059 : Int32), r = some (.int o344059) ∧ w = va_pl P335421 F344060 ∧ RS D I P335421 F344060 γ el ∧ rStr γ [] F335422 F344060 ∧ dc ≤ 0 ∧ ds ≤ 0 ∧ gB o344059 0 2000 ∧ (gIp (o344059.toInt = 0) (∀ m : Nat, rSd (cB (F344060 (γ 9 3))) m → 0 ≤ (cB (F344060 (γ 9 17)) m).toInt)) ∧ (F344060 q335423 = F335422 q335423) ∧ (F344060 (γ 9 3) = F335422 (γ 9 3))
set_option maxRecDepth 100000 in
set_option maxHeartbeats 4000000 in
theorem ct_335425_SpillForgeModel_colours (l : Launch) (hl0 : l.stackTraces = false) (D : va_G) (I : FieldType → ClassId) (γ el : Nat → Nat → Nat) (P335421 : List Nat) (F335422 : Nat → va_E) (q335423 : Nat) (p335424 : Int32) (hT : RS D I P335421 F335422 γ el) (htq335423 : rKd γ q335423 10) (bp335424 : gB p335424 1 32) : CtA (gV D I) l yX17_colours cX17_colours 8 (some FieldType.int) 2 43 0 0 [.ref q335423, .int p335424] (va_pl P335421 F335422) (pt_335425_SpillForgeModel_colours D I γ el P335421 F335422 q335423 p335424) gNA := by
  refine CtA_of hl0 (by decide) (Nat.le_of_ble_eq_true rfl) ?_
  have hm335426 : q335423 ∈ P335421 := RS_m hT htq335423 (by decide)
  refine rk10_e (show rk_10 γ (F335422 q335423) from RS_o hT htq335423) (fun q335428 q335429 p335430 p335431 p335432 p335433 p335434 p335435 p335436 p335437 p335438 p335439 p335440 p335441 p335442 p335443 p335444 he335427 hB335471 ht335445 ht335446 ht335447 ht335448 ht335449 ht335450 ht335451 ht335452 ht335453 ht335454 ht335455 ht335456 ht335457 ht335458 ht335459 ht335460 ht335461 ht335462 ht335463 ht335464 ht335465 ht335466 ht335467 ht335468 hB335472 => ?_)
  have hm335473 : (γ 9 3) ∈ P335421 := RS_m hT ht335450 (by decide)
  obtain ⟨f335475, he335474, bf335475⟩ := show rk_14 I (F335422 (γ 9 3)) from RS_o hT ht335450
  have hm335476 : (γ 9 18) ∈ P335421 := RS_m hT ht335459 (by decide)
  obtain ⟨f335478, he335477, bf335478⟩ := show rk_15 I (F335422 (γ 9 18)) from RS_o hT ht335459
  have hm335479 : (γ 9 15) ∈ P335421 := RS_m hT ht335456 (by decide)
  obtain ⟨f335481, he335480, bf335481⟩ := show rk_18 I (F335422 (γ 9 15)) from RS_o hT ht335456
  have hm335482 : (γ 9 17) ∈ P335421 := RS_m hT ht335458 (by decide)
  obtain ⟨f335484, he335483, bf335484⟩ := show rk_20 I (F335422 (γ 9 17)) from RS_o hT ht335458
  refine G_iconst 0 dr_cX17_colours_0 (by decide +kernel) ?_
  refine G_istore_n (L' := [(2, .int 0), (0, .ref q335423), (1, .int p335424)]) dr_cX17_colours_1 (Nat.le_of_ble_eq_true rfl) rfl ?_
  have hlp2_342793 : ∀ (n2_342793 : Nat) (F342788 : Nat → va_E) (g342787 : Int32), gB g342787 0 2000 → RS D I P335421 F342788 γ el → rStr γ [] F335422 F342788 → (∀ m : Nat, (m : Int) < g342787.toInt → rSd (cB (F342788 (γ 9 3))) m → rSd (cB (F342788 (γ 9 18))) m) → (F342788 q335423 = F335422 q335423) → (F342788 (γ 9 3) = F335422 (γ 9 3)) → ((2001 : Int) - g342787.toInt).toNat < n2_342793 → G (gV D I) l (gRm 2 43 0 0) (gMA (gV D I) (pt_335425_SpillForgeModel_colours D I γ el P335421 F335422 q335423 p335424) gNA 0 0) ky_335425_SpillForgeModel_colours 2 [(2, .int g342787), (0, .ref q335423), (1, .int p335424)] [] (va_pl P335421 F342788) 0 0 := by
    intro n2_342793
    induction n2_342793 with
    | zero => intro F342788 g342787 bg342787 hT342789 hs342790 x342791 x342792 x342793 hm2_342793; exact absurd hm2_342793 (Nat.not_lt_zero _)
    | succ n2_342793 ih2_342793 =>
      intro F342788 g342787 bg342787 hT342789 hs342790 x342791 x342792 x342793 hm2_342793
      have hs342795 : rStr γ [] F335422 F342788 := fun b h0 hb hw => (hs342790 b h0 hb hw).trans ((rStr_rf (γ := γ) (W := []) (F := F335422)) b h0 hb hw).symm
      have hs342796 : rStr γ [] F335422 F342788 := rStr_tr (rStr_rf (γ := γ) (W := []) (F := F335422)) hs342795
      have he342797 : F342788 q335423 = .inr (22, [.ref (γ 9 0), .ref (γ 9 1), .ref (γ 9 2), .ref (γ 9 3), .ref (γ 9 4), .ref (γ 9 5), .ref (γ 9 6), .ref (γ 9 7), .ref (γ 9 8), .int p335430, .int p335431, .int p335432, .int p335433, .int p335434, .int p335435, .ref (γ 9 15), .ref (γ 9 16), .ref (γ 9 17), .ref (γ 9 18), .ref (γ 9 19), .ref (γ 9 20), .ref (γ 9 21), .ref (γ 9 22), .int p335436, .int p335437, .int p335438, .int p335439, .int p335440, .ref q335428, .ref (γ 9 29), .int p335441, .ref (γ 9 31), .int p335442, .int p335443, .int p335444, .ref q335429]) := x342792.trans he335427
      have hm342798 : q335423 ∈ P335421 := RS_m hT342789 htq335423 (by decide)
      have he342799 : F342788 (γ 9 3) = .inl (I .boolean, 2000, .inl f335475) := x342793.trans he335474
      have hm342800 : (γ 9 3) ∈ P335421 := RS_m hT342789 ht335450 (by decide)
      have hm342801 : (γ 9 18) ∈ P335421 := RS_m hT342789 ht335459 (by decide)
      obtain ⟨f342803, he342802, bf342803⟩ := show rk_15 I (F342788 (γ 9 18)) from RS_o hT342789 ht335459
      have hm342804 : (γ 9 15) ∈ P335421 := RS_m hT342789 ht335456 (by decide)
      obtain ⟨f342806, he342805, bf342806⟩ := show rk_18 I (F342788 (γ 9 15)) from RS_o hT342789 ht335456
      have hm342807 : (γ 9 17) ∈ P335421 := RS_m hT342789 ht335458 (by decide)
      obtain ⟨f342809, he342808, bf342809⟩ := show rk_20 I (F342788 (γ 9 17)) from RS_o hT342789 ht335458
      have cq342810 := x342791
      rw [cB_of he342799, cB_of he342802] at cq342810
      refine G_iload_n 0 dr_cX17_colours_2 rfl ?_
      refine G_sipush 2000 dr_cX17_colours_3 (by decide +kernel) ?_
      refine G_icmp_ge 62 dr_cX17_colours_6 (by decide +kernel) (fun hc342811 => ?_) (fun hc342811 => ?_)
      · have r342812 : 2000 ≤ g342787.toInt := gj_leL hc342811 (show Int32.toInt 2000 = 2000 by decide)
        have bg342787' : gB g342787 2000 2000 := ⟨by omega, by omega⟩
        refine G_iconst 0 dr_cX17_colours_62 (by decide +kernel) ?_
        refine G_istore_n (L' := [(2, .int 0), (0, .ref q335423), (1, .int p335424)]) dr_cX17_colours_63 (Nat.le_of_ble_eq_true rfl) rfl ?_
        refine G_aload_n 1 dr_cX17_colours_64 rfl ?_
        refine G_iload_n 2 dr_cX17_colours_65 rfl ?_
        refine Gw_callV (As := [.int p335424]) (gV_ok D I) (ct_336221_SpillForgeModel_next l hl0 D I γ el P335421 F342788 q335423 p335424 hT342789 htq335423) dr_cX17_colours_66 ⟨wr_11_51, wr_1_14, wr_11_54, by decide, rfl, (Nat.le_of_ble_eq_true rfl), (Nat.le_of_ble_eq_true rfl)⟩ wr_11_53 wr_p_107 hm342798 he342797 rfl (show 0 + 0 ≤ 0 by first | omega | decide) (show 0 + 0 ≤ 0 by first | omega | decide) (Nat.le_of_ble_eq_true rfl) (fun r342816 w342817 dc342813 ds342814 hp342815 => ?_) (fun _ _ _ _ _ z => z.elim)
        obtain ⟨o342818, rfl, rfl, hdc, hds, bo342818, x342819, x342820⟩ := hp342815
        change G _ _ _ _ _ _ _ (.int o342818 :: _) _ _ _
        refine G_widen (cs' := 0) (sl' := 0) (by omega) (by omega) ?_
        refine G_istore_n (L' := [(3, .int o342818), (2, .int 0), (0, .ref q335423), (1, .int p335424)]) dr_cX17_colours_69 (Nat.le_of_ble_eq_true rfl) rfl ?_
        have hlp70_343390 : ∀ (n70_343390 : Nat) (F343382 : Nat → va_E) (g343380 : Int32) (g343381 : Int32), gB g343380 (-1) 1999 → gB g343381 0 2000 → RS D I P335421 F343382 γ el → rStr γ [] F335422 F343382 → (∀ m : Nat, rSd (cB (F343382 (γ 9 3))) m → rSd (cB (F343382 (γ 9 18))) m ∨ ∃ i : Nat, (i : Int) < g343381.toInt ∧ (cB (F343382 (γ 9 15)) i).toInt = m) → (rcn (cB (F343382 (γ 9 18))) 2000 + (g343381.toInt : Int).toNat ≤ 2000) → (gIp (0 ≤ g343380.toInt) (rSd (cB (F343382 (γ 9 18))) (g343380.toInt : Int).toNat)) → (gIp (g343380.toInt < 0) (∀ m : Nat, ¬ rSd (cB (F343382 (γ 9 18))) m)) → (F343382 q335423 = F335422 q335423) → (F343382 (γ 9 3) = F335422 (γ 9 3)) → (rcn (cB (F343382 (γ 9 18))) 2000) < n70_343390 → G (gV D I) l (gRm 2 43 0 0) (gMA (gV D I) (pt_335425_SpillForgeModel_colours D I γ el P335421 F335422 q335423 p335424) gNA 0 0) ky_335425_SpillForgeModel_colours 70 [(3, .int g343380), (2, .int g343381), (0, .ref q335423), (1, .int p335424)] [] (va_pl P335421 F343382) 0 0 := by
          intro n70_343390
          induction n70_343390 with
          | zero => intro F343382 g343380 g343381 bg343380 bg343381 hT343383 hs343384 x343385 x343386 x343387 x343388 x343389 x343390 hm70_343390; exact absurd hm70_343390 (Nat.not_lt_zero _)
          | succ n70_343390 ih70_343390 =>
            intro F343382 g343380 g343381 bg343380 bg343381 hT343383 hs343384 x343385 x343386 x343387 x343388 x343389 x343390 hm70_343390
            have hs343392 : rStr γ [] F342788 F343382 := fun b h0 hb hw => (hs343384 b h0 hb hw).trans (hs342790 b h0 hb hw).symm
            have hs343393 : rStr γ [] F335422 F343382 := rStr_tr hs342790 hs343392
            have he343394 : F343382 q335423 = .inr (22, [.ref (γ 9 0), .ref (γ 9 1), .ref (γ 9 2), .ref (γ 9 3), .ref (γ 9 4), .ref (γ 9 5), .ref (γ 9 6), .ref (γ 9 7), .ref (γ 9 8), .int p335430, .int p335431, .int p335432, .int p335433, .int p335434, .int p335435, .ref (γ 9 15), .ref (γ 9 16), .ref (γ 9 17), .ref (γ 9 18), .ref (γ 9 19), .ref (γ 9 20), .ref (γ 9 21), .ref (γ 9 22), .int p335436, .int p335437, .int p335438, .int p335439, .int p335440, .ref q335428, .ref (γ 9 29), .int p335441, .ref (γ 9 31), .int p335442, .int p335443, .int p335444, .ref q335429]) := x343389.trans he335427
            have hm343395 : q335423 ∈ P335421 := RS_m hT343383 htq335423 (by decide)
            have he343396 : F343382 (γ 9 3) = .inl (I .boolean, 2000, .inl f335475) := x343390.trans he335474
            have hm343397 : (γ 9 3) ∈ P335421 := RS_m hT343383 ht335450 (by decide)
            have hm343398 : (γ 9 18) ∈ P335421 := RS_m hT343383 ht335459 (by decide)
            obtain ⟨f343400, he343399, bf343400⟩ := show rk_15 I (F343382 (γ 9 18)) from RS_o hT343383 ht335459
            have hm343401 : (γ 9 15) ∈ P335421 := RS_m hT343383 ht335456 (by decide)
            obtain ⟨f343403, he343402, bf343403⟩ := show rk_18 I (F343382 (γ 9 15)) from RS_o hT343383 ht335456
            have hm343404 : (γ 9 17) ∈ P335421 := RS_m hT343383 ht335458 (by decide)
            obtain ⟨f343406, he343405, bf343406⟩ := show rk_20 I (F343382 (γ 9 17)) from RS_o hT343383 ht335458
            have cq343407 := x343385
            rw [cB_of he343396, cB_of he343399, cB_of he343402] at cq343407
            have cq343408 := x343386
            rw [cB_of he343399] at cq343408
            have cq343409 := x343387
            rw [cB_of he343399] at cq343409
            have cq343410 := x343388
            rw [cB_of he343399] at cq343410
            refine G_iload_n 0 dr_cX17_colours_70 rfl ?_
            refine G_if_lt 142 dr_cX17_colours_71 (by decide +kernel) (fun hc343411 => ?_) (fun hc343411 => ?_)
            · have r343412 : g343380.toInt < 0 := gj_lt hc343411 (show Int32.toInt 0 = 0 by decide)
              have bg343380' : gB g343380 (-1) (-1) := ⟨by omega, by omega⟩
              refine G_iconst 0 dr_cX17_colours_142 (by decide +kernel) ?_
              refine G_istore_n (L' := [(3, .int 0), (2, .int g343381), (0, .ref q335423), (1, .int p335424)]) dr_cX17_colours_143 (Nat.le_of_ble_eq_true rfl) rfl ?_
              have hlp144_343586 : ∀ (n144_343586 : Nat) (F343580 : Nat → va_E) (g343578 : Int32) (g343579 : Int32), gB g343578 0 2000 → gB g343579 0 2000 → RS D I P335421 F343580 γ el → rStr γ [] F335422 F343580 → (gIp (g343578.toInt = 0) (∀ m : Nat, rSd (cB (F343580 (γ 9 3))) m → (∃ i : Nat, (i : Int) < g343579.toInt ∧ (cB (F343580 (γ 9 15)) i).toInt = m) ∨ 0 ≤ (cB (F343580 (γ 9 17)) m).toInt)) → (g343578.toInt + g343579.toInt ≤ 2000) → (F343580 q335423 = F335422 q335423) → (F343580 (γ 9 3) = F335422 (γ 9 3)) → ((g343579.toInt : Int) - (-1)).toNat < n144_343586 → G (gV D I) l (gRm 2 43 0 0) (gMA (gV D I) (pt_335425_SpillForgeModel_colours D I γ el P335421 F335422 q335423 p335424) gNA 0 0) ky_335425_SpillForgeModel_colours 144 [(3, .int g343578), (2, .int g343579), (0, .ref q335423), (1, .int p335424)] [] (va_pl P335421 F343580) 0 0 := by
                intro n144_343586
                induction n144_343586 with
                | zero => intro F343580 g343578 g343579 bg343578 bg343579 hT343581 hs343582 x343583 x343584 x343585 x343586 hm144_343586; exact absurd hm144_343586 (Nat.not_lt_zero _)
                | succ n144_343586 ih144_343586 =>
                  intro F343580 g343578 g343579 bg343578 bg343579 hT343581 hs343582 x343583 x343584 x343585 x343586 hm144_343586
                  have hs343588 : rStr γ [] F343382 F343580 := fun b h0 hb hw => (hs343582 b h0 hb hw).trans (hs343384 b h0 hb hw).symm
                  have hs343589 : rStr γ [] F335422 F343580 := rStr_tr hs343384 hs343588
                  have he343590 : F343580 q335423 = .inr (22, [.ref (γ 9 0), .ref (γ 9 1), .ref (γ 9 2), .ref (γ 9 3), .ref (γ 9 4), .ref (γ 9 5), .ref (γ 9 6), .ref (γ 9 7), .ref (γ 9 8), .int p335430, .int p335431, .int p335432, .int p335433, .int p335434, .int p335435, .ref (γ 9 15), .ref (γ 9 16), .ref (γ 9 17), .ref (γ 9 18), .ref (γ 9 19), .ref (γ 9 20), .ref (γ 9 21), .ref (γ 9 22), .int p335436, .int p335437, .int p335438, .int p335439, .int p335440, .ref q335428, .ref (γ 9 29), .int p335441, .ref (γ 9 31), .int p335442, .int p335443, .int p335444, .ref q335429]) := x343585.trans he335427
                  have hm343591 : q335423 ∈ P335421 := RS_m hT343581 htq335423 (by decide)
                  have he343592 : F343580 (γ 9 3) = .inl (I .boolean, 2000, .inl f335475) := x343586.trans he335474
                  have hm343593 : (γ 9 3) ∈ P335421 := RS_m hT343581 ht335450 (by decide)
                  have hm343594 : (γ 9 18) ∈ P335421 := RS_m hT343581 ht335459 (by decide)
                  obtain ⟨f343596, he343595, bf343596⟩ := show rk_15 I (F343580 (γ 9 18)) from RS_o hT343581 ht335459
                  have hm343597 : (γ 9 15) ∈ P335421 := RS_m hT343581 ht335456 (by decide)
                  obtain ⟨f343599, he343598, bf343599⟩ := show rk_18 I (F343580 (γ 9 15)) from RS_o hT343581 ht335456
                  have hm343600 : (γ 9 17) ∈ P335421 := RS_m hT343581 ht335458 (by decide)
                  obtain ⟨f343602, he343601, bf343602⟩ := show rk_20 I (F343580 (γ 9 17)) from RS_o hT343581 ht335458
                  have cq343603 := x343583
                  rw [cB_of he343592, cB_of he343598, cB_of he343601] at cq343603
                  refine G_iload_n 1 dr_cX17_colours_144 rfl ?_
                  refine G_if_le 253 dr_cX17_colours_145 (by decide +kernel) (fun hc343604 => ?_) (fun hc343604 => ?_)
                  · have r343605 : g343579.toInt ≤ 0 := gj_le hc343604 (show Int32.toInt 0 = 0 by decide)
                    have bg343579' : gB g343579 0 0 := ⟨by omega, by omega⟩
                    refine G_iload_n 0 dr_cX17_colours_253 rfl ?_
                    exact G_iretA dr_cX17_colours_254 rfl (Nat.le_of_ble_eq_true rfl) (Nat.le_of_ble_eq_true rfl) ⟨F343580, g343578, rfl, rfl, hT343581, hs343582, (Nat.le_of_ble_eq_true rfl), (Nat.le_of_ble_eq_true rfl), bg343578, (fun h0 m s => by rw [cB_of he343601]; rw [cB_of he343592] at s; exact (cq343603 h0 m s).resolve_left (fun ⟨i, hi, _⟩ => absurd hi (by omega))), x343585, x343586⟩
                  · have r343606 : 0 < g343579.toInt := gj_nle hc343604 (show Int32.toInt 0 = 0 by decide)
                    have bg343579' : gB g343579 1 2000 := ⟨by omega, by omega⟩
                    obtain ⟨z343607, hz343607⟩ : ∃ z : Int32, z = g343579 + Int32.ofInt (-1) := ⟨_, rfl⟩
                    have ez343607 : z343607.toInt = g343579.toInt + (-1) := gI_inc hz343607 (by decide) bg343579' (by decide) (by decide)
                    have bz343607 : gB z343607 0 1999 := ⟨by omega, by omega⟩
                    refine G_iinc (L' := [(2, .int z343607), (3, .int g343578), (0, .ref q335423), (1, .int p335424)]) z343607 1 dr_cX17_colours_148 rfl hz343607.symm (Nat.le_of_ble_eq_true rfl) rfl ?_
                    refine G_aload_n 2 dr_cX17_colours_151 rfl ?_
                    refine Gp_get 15 hm343591 he343590 dr_cX17_colours_152 (gk_X17 D I) (Nat.le_of_ble_eq_true rfl) wr_7_89 rfl ?_
                    refine G_iload_n 0 dr_cX17_colours_155 rfl ?_
                    refine Gp_iald 0 hm343597 he343598 dr_cX17_colours_156 rfl (gB_in bz343607 (by decide) (by decide)) (G_nam fun z343608 hz343608 => ?_)
                    have bz343608 : gB z343608 0 1999 := by rw [hz343608]; exact bf343599 _
                    refine G_istore (L' := [(4, .int z343608), (2, .int z343607), (3, .int g343578), (0, .ref q335423), (1, .int p335424)]) dr_cX17_colours_157 (Nat.le_of_ble_eq_true rfl) rfl ?_
                    refine G_lconst 0 dr_cX17_colours_159 rfl ?_
                    refine G_lstore (L' := [(5, .long 0), (4, .int z343608), (2, .int z343607), (3, .int g343578), (0, .ref q335423), (1, .int p335424)]) dr_cX17_colours_160 (Nat.le_of_ble_eq_true rfl) rfl ?_
                    refine G_iconst 0 dr_cX17_colours_162 (by decide +kernel) ?_
                    refine G_istore (L' := [(7, .int 0), (5, .long 0), (4, .int z343608), (2, .int z343607), (3, .int g343578), (0, .ref q335423), (1, .int p335424)]) dr_cX17_colours_163 (Nat.le_of_ble_eq_true rfl) rfl ?_
                    have hlp165_343680 : ∀ (n165_343680 : Nat) (g343678 : Int32) (gl343679 : Int64), gB g343678 0 2000 → lb_Q gl343679 (32) → ((2001 : Int) - g343678.toInt).toNat < n165_343680 → G (gV D I) l (gRm 2 43 0 0) (gMA (gV D I) (pt_335425_SpillForgeModel_colours D I γ el P335421 F335422 q335423 p335424) gNA 0 0) ky_335425_SpillForgeModel_colours 165 [(7, .int g343678), (5, .long gl343679), (4, .int z343608), (2, .int z343607), (3, .int g343578), (0, .ref q335423), (1, .int p335424)] [] (va_pl P335421 F343580) 0 0 := by
                      intro n165_343680
                      induction n165_343680 with
                      | zero => intro g343678 gl343679 bg343678 x343680 hm165_343680; exact absurd hm165_343680 (Nat.not_lt_zero _)
                      | succ n165_343680 ih165_343680 =>
                        intro g343678 gl343679 bg343678 x343680 hm165_343680
                        refine G_iload 0 dr_cX17_colours_165 rfl ?_
                        refine G_sipush 2000 dr_cX17_colours_167 (by decide +kernel) ?_
                        refine G_icmp_ge 218 dr_cX17_colours_170 (by decide +kernel) (fun hc343682 => ?_) (fun hc343682 => ?_)
                        · have r343683 : 2000 ≤ g343678.toInt := gj_leL hc343682 (show Int32.toInt 2000 = 2000 by decide)
                          have bg343678' : gB g343678 2000 2000 := ⟨by omega, by omega⟩
                          refine G_lload 1 dr_cX17_colours_218 rfl ?_
                          refine G_ldc2 (-1) dr_cX17_colours_220 wr_10_188 ?_
                          refine G_lxor dr_cX17_colours_223 (G_namL fun u343684 hu343684 => ?_)
                          refine Gw_callS (As := [.long u343684]) (gV_ok D I) (nzc_Long_numberOfTrailingZeros l hl0 D I P335421 F343580 u343684) dr_cX17_colours_224 ⟨wr_11_1, wr_1_31, wr_11_3, by decide, rfl, (Nat.le_of_ble_eq_true rfl), (Nat.le_of_ble_eq_true rfl)⟩ wr_11_2 (show 0 + 0 ≤ 0 by first | omega | decide) (show 0 + 0 ≤ 0 by first | omega | decide) (Nat.le_of_ble_eq_true rfl) (fun r343688 w343689 dc343685 ds343686 hp343687 => ?_) (fun _ _ _ _ _ z => z.elim)
                          obtain ⟨o343691, rfl, rfl, hdc, hds, hO343690⟩ := hp343687
                          have hO343690 := hO343690 (nz_x hu343684 x343680)
                          have bo343691 : gB o343691 0 63 := ⟨hO343690.1, hO343690.2.1⟩
                          change G _ _ _ _ _ _ _ (.int o343691 :: _) _ _ _
                          refine G_widen (cs' := 0) (sl' := 0) (by omega) (by omega) ?_
                          refine G_istore (L' := [(7, .int o343691), (5, .long gl343679), (4, .int z343608), (2, .int z343607), (3, .int g343578), (0, .ref q335423), (1, .int p335424)]) dr_cX17_colours_227 (Nat.le_of_ble_eq_true rfl) rfl ?_
                          refine G_iload 0 dr_cX17_colours_229 rfl ?_
                          refine G_iload_n 6 dr_cX17_colours_231 rfl ?_
                          refine G_icmp_ge 247 dr_cX17_colours_232 (by decide +kernel) (fun hc343692 => ?_) (fun hc343692 => ?_)
                          · have r343693 : p335424.toInt ≤ o343691.toInt := gC_le hc343692
                            have bo343691' : gB o343691 1 63 := ⟨by omega, by omega⟩
                            have bg343578' : gB g343578 0 1999 := ⟨by omega, by omega⟩
                            obtain ⟨z343694, hz343694⟩ : ∃ z : Int32, z = g343578 + Int32.ofInt 1 := ⟨_, rfl⟩
                            have ez343694 : z343694.toInt = g343578.toInt + 1 := gI_inc hz343694 (by decide) bg343578' (by decide) (by decide)
                            have bz343694 : gB z343694 1 2000 := ⟨by omega, by omega⟩
                            refine G_iinc (L' := [(3, .int z343694), (7, .int o343691), (5, .long gl343679), (4, .int z343608), (2, .int z343607), (0, .ref q335423), (1, .int p335424)]) z343694 4 dr_cX17_colours_247 rfl hz343694.symm (Nat.le_of_ble_eq_true rfl) rfl ?_
                            refine G_goto 144 dr_cX17_colours_250 (by decide +kernel) ?_
                            refine G_lv (L' := [(3, .int z343694), (2, .int z343607), (0, .ref q335423), (1, .int p335424)]) [0, 4, 5, 6] rfl ?_
                            exact ih144_343586 F343580 z343694 z343607 (gB_w bz343694 (by decide) (by decide)) (gB_w bz343607 (by decide) (by decide)) hT343581 hs343582 (fun h0 => absurd h0 (by omega)) (by omega) x343585 x343586 (mz_dn ez343607 (Int.le_trans (by decide) bg343579'.1) hm144_343586)
                          · have r343695 : o343691.toInt < p335424.toInt := gC_nle hc343692
                            have bo343691' : gB o343691 0 31 := ⟨by omega, by omega⟩
                            refine G_aload_n 5 dr_cX17_colours_235 rfl ?_
                            refine Gp_get 17 hm343591 he343590 dr_cX17_colours_236 (gk_X17 D I) (Nat.le_of_ble_eq_true rfl) wr_7_91 rfl ?_
                            refine G_iload 2 dr_cX17_colours_239 rfl ?_
                            refine G_iload 0 dr_cX17_colours_241 rfl ?_
                            refine Gp_iast 0 hm343600 he343601 dr_cX17_colours_243 rfl (gB_in bz343608 (by decide) (by decide)) (fun F343696 e343697 n343698 => ?_)
                            obtain ⟨f343699, hf343699⟩ : ∃ z, z = upd f343602 z343608.toNatClampNeg o343691 := ⟨_, rfl⟩
                            rw [← hf343699] at e343697
                            have he343700 : F343696 q335423 = .inr (22, [.ref (γ 9 0), .ref (γ 9 1), .ref (γ 9 2), .ref (γ 9 3), .ref (γ 9 4), .ref (γ 9 5), .ref (γ 9 6), .ref (γ 9 7), .ref (γ 9 8), .int p335430, .int p335431, .int p335432, .int p335433, .int p335434, .int p335435, .ref (γ 9 15), .ref (γ 9 16), .ref (γ 9 17), .ref (γ 9 18), .ref (γ 9 19), .ref (γ 9 20), .ref (γ 9 21), .ref (γ 9 22), .int p335436, .int p335437, .int p335438, .int p335439, .int p335440, .ref q335428, .ref (γ 9 29), .int p335441, .ref (γ 9 31), .int p335442, .int p335443, .int p335444, .ref q335429]) := (n343698 q335423 (rn_oa he343590 he343601)).trans he343590
                            have he343701 : F343696 (γ 9 3) = .inl (I .boolean, 2000, .inl f335475) := (n343698 (γ 9 3) (rn_ty ht335450 ht335458 (by decide))).trans he343592
                            have he343702 : F343696 (γ 9 18) = .inl (I .boolean, 2000, .inl f343596) := (n343698 (γ 9 18) (rn_ty ht335459 ht335458 (by decide))).trans he343595
                            have he343703 : F343696 (γ 9 15) = .inl (I .int, 2000, .inl f343599) := (n343698 (γ 9 15) (rn_ty ht335456 ht335458 (by decide))).trans he343598
                            have he343704 : F343696 (γ 9 17) = .inl (I .int, 2000, .inl f343699) := e343697
                            have hs343705 : rStr γ [] F335422 F343696 := rStr_put hs343582 n343698 ht335458 (by decide)
                            have kp343706 : F343696 q335423 = F335422 q335423 := (n343698 q335423 (rn_ty htq335423 ht335458 (by decide))).trans x343585
                            have kp343707 : F343696 (γ 9 3) = F335422 (γ 9 3) := (n343698 (γ 9 3) (rn_ty ht335450 ht335458 (by decide))).trans x343586
                            have bf343699 : gF f343699 (-1) 31 := gF_upd hf343699 bf343602 (gB_w bo343691' (by decide) (by decide))
                            refine G_goto 250 dr_cX17_colours_244 (by decide +kernel) ?_
                            refine G_goto 144 dr_cX17_colours_250 (by decide +kernel) ?_
                            have hT343708 : RS D I P335421 F343696 γ el := RS_set hT343581 n343698 ht335458 (by decide) ⟨f343699, he343704, bf343699⟩
                            refine G_lv (L' := [(3, .int g343578), (2, .int z343607), (0, .ref q335423), (1, .int p335424)]) [4, 3, 5, 6] rfl ?_
                            exact ih144_343586 F343696 g343578 z343607 bg343578 (gB_w bz343607 (by decide) (by decide)) hT343708 hs343705 (by rw [cB_of he343701, cB_of he343703, cB_of he343704]; exact fun h0 => co_u hz343608 hf343699 (by omega) (by omega) (by omega) (cq343603 h0)) (by omega) kp343706 kp343707 (mz_dn ez343607 (Int.le_trans (by decide) bg343579'.1) hm144_343586)
                        · have r343709 : g343678.toInt < 2000 := gj_nleL hc343682 (show Int32.toInt 2000 = 2000 by decide)
                          have bg343678' : gB g343678 0 1999 := ⟨by omega, by omega⟩
                          refine G_aload_n 5 dr_cX17_colours_173 rfl ?_
                          refine Gp_get 17 hm343591 he343590 dr_cX17_colours_174 (gk_X17 D I) (Nat.le_of_ble_eq_true rfl) wr_7_91 rfl ?_
                          refine G_iload 0 dr_cX17_colours_177 rfl ?_
                          refine Gp_iald 0 hm343600 he343601 dr_cX17_colours_179 rfl (gB_in bg343678' (by decide) (by decide)) (G_nam fun z343710 hz343710 => ?_)
                          have bz343710 : gB z343710 (-1) 31 := by rw [hz343710]; exact bf343602 _
                          refine G_if_lt 212 dr_cX17_colours_180 (by decide +kernel) (fun hc343711 => ?_) (fun hc343711 => ?_)
                          · have r343712 : z343710.toInt < 0 := gj_lt hc343711 (show Int32.toInt 0 = 0 by decide)
                            have bz343710' : gB z343710 (-1) (-1) := ⟨by omega, by omega⟩
                            obtain ⟨z343713, hz343713⟩ : ∃ z : Int32, z = g343678 + Int32.ofInt 1 := ⟨_, rfl⟩
                            have ez343713 : z343713.toInt = g343678.toInt + 1 := gI_inc hz343713 (by decide) bg343678' (by decide) (by decide)
                            have bz343713 : gB z343713 1 2000 := ⟨by omega, by omega⟩
                            refine G_iinc (L' := [(7, .int z343713), (5, .long gl343679), (4, .int z343608), (2, .int z343607), (3, .int g343578), (0, .ref q335423), (1, .int p335424)]) z343713 0 dr_cX17_colours_212 rfl hz343713.symm (Nat.le_of_ble_eq_true rfl) rfl ?_
                            refine G_goto 165 dr_cX17_colours_215 (by decide +kernel) ?_
                            exact ih165_343680 z343713 gl343679 (gB_w bz343713 (by decide) (by decide)) x343680 (mz_up ez343713 (Int.le_trans bg343678'.2 (by decide)) hm165_343680)
                          · have r343714 : 0 ≤ z343710.toInt := gj_nlt hc343711 (show Int32.toInt 0 = 0 by decide)
                            have bz343710' : gB z343710 0 31 := ⟨by omega, by omega⟩
                            refine G_aload_n 5 dr_cX17_colours_183 rfl ?_
                            refine Gp_get 1 hm343591 he343590 dr_cX17_colours_184 (gk_X17 D I) (Nat.le_of_ble_eq_true rfl) wr_7_75 rfl ?_
                            refine G_iload 2 dr_cX17_colours_187 rfl ?_
                            have hm343715 : (γ 9 1) ∈ P335421 := RS_m hT343581 ht335448 (by decide)
                            obtain ⟨f343717, he343716, hg343718⟩ := show rk_13 I γ (F343580 (γ 9 1)) from RS_o hT343581 ht335448
                            obtain ⟨q343719, hx343721⟩ : ∃ x, x = γ 11 z343608.toInt.toNat := ⟨_, rfl⟩
                            have ht343720 : rKd γ q343719 36 := by rw [hx343721]; exact (hg343718 _ (show z343608.toInt.toNat < 2000 by omega)).2.1
                            refine Gp_aald 5 hm343715 he343716 dr_cX17_colours_189 rfl rfl (gB_in bz343608 (by decide) (by decide)) ?_
                            rw [show f343717 z343608.toNatClampNeg = some q343719 from (hg343718 _ (show z343608.toInt.toNat < 2000 by omega)).1.trans (by rw [hx343721])]
                            change G _ _ _ _ _ _ _ (.ref q343719 :: _) _ _ _
                            refine G_iload 0 dr_cX17_colours_190 rfl ?_
                            have hm343722 : q343719 ∈ P335421 := RS_m hT343581 ht343720 (by decide)
                            obtain ⟨f343724, he343723, wf343724⟩ := show rk_36 I (F343580 q343719) from RS_o hT343581 ht343720
                            refine Gw_callS (As := [.ref q343719, .int g343678]) (gV_ok D I) (cp_1845_SpillForgeModel_has l hl0 D I P335421 F343580 q343719 g343678 f343724 hm343722 he343723 (gB_w bg343678' (by decide) (by decide))) dr_cX17_colours_192 ⟨wr_10_203, wr_1_14, wr_10_205, by decide, rfl, (Nat.le_of_ble_eq_true rfl), (Nat.le_of_ble_eq_true rfl)⟩ wr_10_204 (show 0 + 0 ≤ 0 by first | omega | decide) (show 0 + 0 ≤ 0 by first | omega | decide) (Nat.le_of_ble_eq_true rfl) (fun r343728 w343729 dc343725 ds343726 hp343727 => ?_) (fun _ _ _ _ _ z => z.elim)
                            rcases hp343727 with ⟨z343730, z343731, rfl, rfl, hdc, hds, r343732, r343733, r343734, r343735, r343736⟩ | ⟨z343737, z343738, rfl, rfl, hdc, hds, r343739, r343740, r343741, r343742, r343743⟩
                            · change G _ _ _ _ _ _ _ (.int 0 :: _) _ _ _
                              refine G_widen (cs' := 0) (sl' := 0) (by omega) (by omega) ?_
                              refine G_if_eq 212 dr_cX17_colours_195 (by decide +kernel) (fun _ => ?_) (fun hc => absurd hc (by decide))
                              obtain ⟨z343745, hz343745⟩ : ∃ z : Int32, z = g343678 + Int32.ofInt 1 := ⟨_, rfl⟩
                              have ez343745 : z343745.toInt = g343678.toInt + 1 := gI_inc hz343745 (by decide) bg343678' (by decide) (by decide)
                              have bz343745 : gB z343745 1 2000 := ⟨by omega, by omega⟩
                              refine G_iinc (L' := [(7, .int z343745), (5, .long gl343679), (4, .int z343608), (2, .int z343607), (3, .int g343578), (0, .ref q335423), (1, .int p335424)]) z343745 0 dr_cX17_colours_212 rfl hz343745.symm (Nat.le_of_ble_eq_true rfl) rfl ?_
                              refine G_goto 165 dr_cX17_colours_215 (by decide +kernel) ?_
                              exact ih165_343680 z343745 gl343679 (gB_w bz343745 (by decide) (by decide)) x343680 (mz_up ez343745 (Int.le_trans bg343678'.2 (by decide)) hm165_343680)
                            · change G _ _ _ _ _ _ _ (.int 1 :: _) _ _ _
                              refine G_widen (cs' := 0) (sl' := 0) (by omega) (by omega) ?_
                              refine G_if_eq 212 dr_cX17_colours_195 (by decide +kernel) (fun hc => absurd hc (by decide)) (fun _ => ?_)
                              refine G_lload 1 dr_cX17_colours_198 rfl ?_
                              refine G_lconst 1 dr_cX17_colours_200 rfl ?_
                              refine G_aload_n 5 dr_cX17_colours_201 rfl ?_
                              refine Gp_get 17 hm343591 he343590 dr_cX17_colours_202 (gk_X17 D I) (Nat.le_of_ble_eq_true rfl) wr_7_91 rfl ?_
                              refine G_iload 0 dr_cX17_colours_205 rfl ?_
                              refine Gp_iald 0 hm343600 he343601 dr_cX17_colours_207 rfl (gB_in bg343678' (by decide) (by decide)) (G_eqi (y := z343710) hz343710.symm ?_)
                              refine G_lshl dr_cX17_colours_208 (G_namL fun u343746 hu343746 => ?_)
                              have qu343746 : lb_Q u343746 (z343710.toInt % 64 + 1) := lb_Qshl hu343746 (by omega)
                              refine G_lor dr_cX17_colours_209 (G_namL fun u343747 hu343747 => ?_)
                              have qu343747 : lb_Q u343747 (32) := lb_Qor hu343747 x343680 (lb_Qw qu343746 (by omega))
                              refine G_lstore (L' := [(5, .long u343747), (7, .int g343678), (4, .int z343608), (2, .int z343607), (3, .int g343578), (0, .ref q335423), (1, .int p335424)]) dr_cX17_colours_210 (Nat.le_of_ble_eq_true rfl) rfl ?_
                              obtain ⟨z343748, hz343748⟩ : ∃ z : Int32, z = g343678 + Int32.ofInt 1 := ⟨_, rfl⟩
                              have ez343748 : z343748.toInt = g343678.toInt + 1 := gI_inc hz343748 (by decide) bg343678' (by decide) (by decide)
                              have bz343748 : gB z343748 1 2000 := ⟨by omega, by omega⟩
                              refine G_iinc (L' := [(7, .int z343748), (5, .long u343747), (4, .int z343608), (2, .int z343607), (3, .int g343578), (0, .ref q335423), (1, .int p335424)]) z343748 1 dr_cX17_colours_212 rfl hz343748.symm (Nat.le_of_ble_eq_true rfl) rfl ?_
                              refine G_goto 165 dr_cX17_colours_215 (by decide +kernel) ?_
                              exact ih165_343680 z343748 u343747 (gB_w bz343748 (by decide) (by decide)) qu343747 (mz_up ez343748 (Int.le_trans bg343678'.2 (by decide)) hm165_343680)
                    exact hlp165_343680 (((2001 : Int) - 0).toNat + 1) 0 0 (gB_w (gBl (show Int32.toInt 0 = 0 by decide)) (by decide) (by decide)) lb_Q0 (Nat.lt_succ_self _)
              exact hlp144_343586 (((g343381.toInt : Int) - (-1)).toNat + 1) F343382 0 g343381 (gB_w (gBl (show Int32.toInt 0 = 0 by decide)) (by decide) (by decide)) bg343381 hT343383 hs343384 (by rw [cB_of he343396, cB_of he343402, cB_of he343405]; exact fun _ m s => Or.inl ((cq343407 m s).resolve_left (cq343410 (by omega) m))) (by have qa0 : Int32.toInt 0 = 0 := (by decide); omega) x343389 x343390 (Nat.lt_succ_self _)
            · have r343749 : 0 ≤ g343380.toInt := gj_nlt hc343411 (show Int32.toInt 0 = 0 by decide)
              have bg343380' : gB g343380 0 1999 := ⟨by omega, by omega⟩
              have r343750 := rcn_pos (cq343409 (by omega))
              have r343751 := cq343408
              have bg343381' : gB g343381 0 1999 := ⟨by omega, by omega⟩
              refine G_aload_n 2 dr_cX17_colours_74 rfl ?_
              refine Gp_get 15 hm343395 he343394 dr_cX17_colours_75 (gk_X17 D I) (Nat.le_of_ble_eq_true rfl) wr_7_89 rfl ?_
              refine G_iload_n 1 dr_cX17_colours_78 rfl ?_
              refine G_iload_n 0 dr_cX17_colours_79 rfl ?_
              refine Gp_iast 0 hm343401 he343402 dr_cX17_colours_80 rfl (gB_in bg343381' (by decide) (by decide)) (fun F343752 e343753 n343754 => ?_)
              obtain ⟨f343755, hf343755⟩ : ∃ z, z = upd f343403 g343381.toNatClampNeg g343380 := ⟨_, rfl⟩
              rw [← hf343755] at e343753
              have he343756 : F343752 q335423 = .inr (22, [.ref (γ 9 0), .ref (γ 9 1), .ref (γ 9 2), .ref (γ 9 3), .ref (γ 9 4), .ref (γ 9 5), .ref (γ 9 6), .ref (γ 9 7), .ref (γ 9 8), .int p335430, .int p335431, .int p335432, .int p335433, .int p335434, .int p335435, .ref (γ 9 15), .ref (γ 9 16), .ref (γ 9 17), .ref (γ 9 18), .ref (γ 9 19), .ref (γ 9 20), .ref (γ 9 21), .ref (γ 9 22), .int p335436, .int p335437, .int p335438, .int p335439, .int p335440, .ref q335428, .ref (γ 9 29), .int p335441, .ref (γ 9 31), .int p335442, .int p335443, .int p335444, .ref q335429]) := (n343754 q335423 (rn_oa he343394 he343402)).trans he343394
              have he343757 : F343752 (γ 9 3) = .inl (I .boolean, 2000, .inl f335475) := (n343754 (γ 9 3) (rn_ty ht335450 ht335456 (by decide))).trans he343396
              have he343758 : F343752 (γ 9 18) = .inl (I .boolean, 2000, .inl f343400) := (n343754 (γ 9 18) (rn_ty ht335459 ht335456 (by decide))).trans he343399
              have he343759 : F343752 (γ 9 17) = .inl (I .int, 2000, .inl f343406) := (n343754 (γ 9 17) (rn_ty ht335458 ht335456 (by decide))).trans he343405
              have he343760 : F343752 (γ 9 15) = .inl (I .int, 2000, .inl f343755) := e343753
              have hs343761 : rStr γ [] F335422 F343752 := rStr_put hs343384 n343754 ht335456 (by decide)
              have kp343762 : F343752 q335423 = F335422 q335423 := (n343754 q335423 (rn_ty htq335423 ht335456 (by decide))).trans x343389
              have kp343763 : F343752 (γ 9 3) = F335422 (γ 9 3) := (n343754 (γ 9 3) (rn_ty ht335450 ht335456 (by decide))).trans x343390
              have bf343755 : gF f343755 0 1999 := gF_upd hf343755 bf343403 bg343380'
              obtain ⟨z343764, hz343764⟩ : ∃ z : Int32, z = g343381 + Int32.ofInt 1 := ⟨_, rfl⟩
              have ez343764 : z343764.toInt = g343381.toInt + 1 := gI_inc hz343764 (by decide) bg343381' (by decide) (by decide)
              have bz343764 : gB z343764 1 2000 := ⟨by omega, by omega⟩
              refine G_iinc (L' := [(2, .int z343764), (3, .int g343380), (0, .ref q335423), (1, .int p335424)]) z343764 1 dr_cX17_colours_81 rfl hz343764.symm (Nat.le_of_ble_eq_true rfl) rfl ?_
              refine G_aload_n 2 dr_cX17_colours_84 rfl ?_
              refine Gp_get 18 hm343395 he343756 dr_cX17_colours_85 (gk_X17 D I) (Nat.le_of_ble_eq_true rfl) wr_7_92 rfl ?_
              refine G_iload_n 1 dr_cX17_colours_88 rfl ?_
              refine G_iconst 0 dr_cX17_colours_89 (by decide +kernel) ?_
              have hT343765 : RS D I P335421 F343752 γ el := RS_set hT343383 n343754 ht335456 (by decide) ⟨f343755, he343760, bf343755⟩
              refine Gp_zast 3 hm343398 he343758 dr_cX17_colours_90 rfl (gB_in bg343380' (by decide) (by decide)) (fun F343766 e343767 n343768 => ?_)
              obtain ⟨f343769, hf343769⟩ : ∃ z, z = upd f343400 g343380.toNatClampNeg (vp_nar .boolean 0) := ⟨_, rfl⟩
              rw [← hf343769] at e343767
              have he343770 : F343766 q335423 = .inr (22, [.ref (γ 9 0), .ref (γ 9 1), .ref (γ 9 2), .ref (γ 9 3), .ref (γ 9 4), .ref (γ 9 5), .ref (γ 9 6), .ref (γ 9 7), .ref (γ 9 8), .int p335430, .int p335431, .int p335432, .int p335433, .int p335434, .int p335435, .ref (γ 9 15), .ref (γ 9 16), .ref (γ 9 17), .ref (γ 9 18), .ref (γ 9 19), .ref (γ 9 20), .ref (γ 9 21), .ref (γ 9 22), .int p335436, .int p335437, .int p335438, .int p335439, .int p335440, .ref q335428, .ref (γ 9 29), .int p335441, .ref (γ 9 31), .int p335442, .int p335443, .int p335444, .ref q335429]) := (n343768 q335423 (rn_oa he343756 he343758)).trans he343756
              have he343771 : F343766 (γ 9 3) = .inl (I .boolean, 2000, .inl f335475) := (n343768 (γ 9 3) (rn_ty ht335450 ht335459 (by decide))).trans he343757
              have he343772 : F343766 (γ 9 15) = .inl (I .int, 2000, .inl f343755) := (n343768 (γ 9 15) (rn_ty ht335456 ht335459 (by decide))).trans he343760
              have he343773 : F343766 (γ 9 17) = .inl (I .int, 2000, .inl f343406) := (n343768 (γ 9 17) (rn_ty ht335458 ht335459 (by decide))).trans he343759
              have he343774 : F343766 (γ 9 18) = .inl (I .boolean, 2000, .inl f343769) := e343767
              have hs343775 : rStr γ [] F335422 F343766 := rStr_put hs343761 n343768 ht335459 (by decide)
              have kp343776 : F343766 q335423 = F335422 q335423 := (n343768 q335423 (rn_ty htq335423 ht335459 (by decide))).trans kp343762
              have kp343777 : F343766 (γ 9 3) = F335422 (γ 9 3) := (n343768 (γ 9 3) (rn_ty ht335450 ht335459 (by decide))).trans kp343763
              have bf343769 : gF f343769 0 1 := gF_upd hf343769 bf343400 (gB_w (gBl (show Int32.toInt 0 = 0 by decide)) (by decide) (by decide))
              have hT343779 : RS D I P335421 F343766 γ el := RS_set hT343765 n343768 ht335459 (by decide) ⟨f343769, he343774, bf343769⟩
              have td343778 := th_d hf343769 (by omega) (cq343409 (by omega))
              refine G_iconst 0 dr_cX17_colours_91 (by decide +kernel) ?_
              refine G_istore (L' := [(4, .int 0), (2, .int z343764), (3, .int g343380), (0, .ref q335423), (1, .int p335424)]) dr_cX17_colours_92 (Nat.le_of_ble_eq_true rfl) rfl ?_
              have hlp94_343871 : ∀ (n94_343871 : Nat) (F343864 : Nat → va_E) (g343863 : Int32), gB g343863 0 2000 → RS D I P335421 F343864 γ el → rStr γ [] F335422 F343864 → (∀ m : Nat, rSd (cB (F343864 (γ 9 3))) m → rSd (cB (F343864 (γ 9 18))) m ∨ ∃ i : Nat, (i : Int) < z343764.toInt ∧ (cB (F343864 (γ 9 15)) i).toInt = m) → (rcn (cB (F343864 (γ 9 18))) 2000 + (z343764.toInt : Int).toNat ≤ 2000) → (rcn (cB (F343864 (γ 9 18))) 2000 + 1 ≤ rcn (cB (F343382 (γ 9 18))) 2000) → (F343864 q335423 = F335422 q335423) → (F343864 (γ 9 3) = F335422 (γ 9 3)) → ((2001 : Int) - g343863.toInt).toNat < n94_343871 → G (gV D I) l (gRm 2 43 0 0) (gMA (gV D I) (pt_335425_SpillForgeModel_colours D I γ el P335421 F335422 q335423 p335424) gNA 0 0) ky_335425_SpillForgeModel_colours 94 [(4, .int g343863), (2, .int z343764), (3, .int g343380), (0, .ref q335423), (1, .int p335424)] [] (va_pl P335421 F343864) 0 0 := by
                intro n94_343871
                induction n94_343871 with
                | zero => intro F343864 g343863 bg343863 hT343865 hs343866 x343867 x343868 x343869 x343870 x343871 hm94_343871; exact absurd hm94_343871 (Nat.not_lt_zero _)
                | succ n94_343871 ih94_343871 =>
                  intro F343864 g343863 bg343863 hT343865 hs343866 x343867 x343868 x343869 x343870 x343871 hm94_343871
                  have hs343873 : rStr γ [] F343766 F343864 := fun b h0 hb hw => (hs343866 b h0 hb hw).trans (hs343775 b h0 hb hw).symm
                  have hs343874 : rStr γ [] F335422 F343864 := rStr_tr hs343775 hs343873
                  have he343875 : F343864 q335423 = .inr (22, [.ref (γ 9 0), .ref (γ 9 1), .ref (γ 9 2), .ref (γ 9 3), .ref (γ 9 4), .ref (γ 9 5), .ref (γ 9 6), .ref (γ 9 7), .ref (γ 9 8), .int p335430, .int p335431, .int p335432, .int p335433, .int p335434, .int p335435, .ref (γ 9 15), .ref (γ 9 16), .ref (γ 9 17), .ref (γ 9 18), .ref (γ 9 19), .ref (γ 9 20), .ref (γ 9 21), .ref (γ 9 22), .int p335436, .int p335437, .int p335438, .int p335439, .int p335440, .ref q335428, .ref (γ 9 29), .int p335441, .ref (γ 9 31), .int p335442, .int p335443, .int p335444, .ref q335429]) := x343870.trans he335427
                  have hm343876 : q335423 ∈ P335421 := RS_m hT343865 htq335423 (by decide)
                  have he343877 : F343864 (γ 9 3) = .inl (I .boolean, 2000, .inl f335475) := x343871.trans he335474
                  have hm343878 : (γ 9 3) ∈ P335421 := RS_m hT343865 ht335450 (by decide)
                  have hm343879 : (γ 9 18) ∈ P335421 := RS_m hT343865 ht335459 (by decide)
                  obtain ⟨f343881, he343880, bf343881⟩ := show rk_15 I (F343864 (γ 9 18)) from RS_o hT343865 ht335459
                  have hm343882 : (γ 9 15) ∈ P335421 := RS_m hT343865 ht335456 (by decide)
                  obtain ⟨f343884, he343883, bf343884⟩ := show rk_18 I (F343864 (γ 9 15)) from RS_o hT343865 ht335456
                  have hm343885 : (γ 9 17) ∈ P335421 := RS_m hT343865 ht335458 (by decide)
                  obtain ⟨f343887, he343886, bf343887⟩ := show rk_20 I (F343864 (γ 9 17)) from RS_o hT343865 ht335458
                  have cq343888 := x343867
                  rw [cB_of he343877, cB_of he343880, cB_of he343883] at cq343888
                  have cq343889 := x343868
                  rw [cB_of he343880] at cq343889
                  have cq343890 := x343869
                  rw [cB_of he343880] at cq343890
                  refine G_iload 0 dr_cX17_colours_94 rfl ?_
                  refine G_sipush 2000 dr_cX17_colours_96 (by decide +kernel) ?_
                  refine G_icmp_ge 133 dr_cX17_colours_99 (by decide +kernel) (fun hc343891 => ?_) (fun hc343891 => ?_)
                  · have r343892 : 2000 ≤ g343863.toInt := gj_leL hc343891 (show Int32.toInt 2000 = 2000 by decide)
                    have bg343863' : gB g343863 2000 2000 := ⟨by omega, by omega⟩
                    refine G_aload_n 3 dr_cX17_colours_133 rfl ?_
                    refine G_iload_n 4 dr_cX17_colours_134 rfl ?_
                    refine Gw_callV (As := [.int p335424]) (gV_ok D I) (ct_336221_SpillForgeModel_next l hl0 D I γ el P335421 F343864 q335423 p335424 hT343865 htq335423) dr_cX17_colours_135 ⟨wr_11_51, wr_1_14, wr_11_54, by decide, rfl, (Nat.le_of_ble_eq_true rfl), (Nat.le_of_ble_eq_true rfl)⟩ wr_11_53 wr_p_107 hm343876 he343875 rfl (show 0 + 0 ≤ 0 by first | omega | decide) (show 0 + 0 ≤ 0 by first | omega | decide) (Nat.le_of_ble_eq_true rfl) (fun r343896 w343897 dc343893 ds343894 hp343895 => ?_) (fun _ _ _ _ _ z => z.elim)
                    obtain ⟨o343898, rfl, rfl, hdc, hds, bo343898, x343899, x343900⟩ := hp343895
                    change G _ _ _ _ _ _ _ (.int o343898 :: _) _ _ _
                    refine G_widen (cs' := 0) (sl' := 0) (by omega) (by omega) ?_
                    refine G_istore_n (L' := [(3, .int o343898), (4, .int g343863), (2, .int z343764), (0, .ref q335423), (1, .int p335424)]) dr_cX17_colours_138 (Nat.le_of_ble_eq_true rfl) rfl ?_
                    refine G_goto 70 dr_cX17_colours_139 (by decide +kernel) ?_
                    refine G_lv (L' := [(3, .int o343898), (2, .int z343764), (0, .ref q335423), (1, .int p335424)]) [0, 2, 3, 4] rfl ?_
                    exact ih70_343390 F343864 o343898 z343764 bo343898 (gB_w bz343764 (by decide) (by decide)) hT343865 hs343866 (by rw [cB_of he343877, cB_of he343880, cB_of he343883]; exact cq343888) (by rw [cB_of he343880]; exact cq343889) x343899 x343900 x343870 x343871 (by have q := cq343890; rw [cB_of he343399] at q; rw [cB_of he343880]; rw [cB_of he343399] at hm70_343390; omega)
                  · have r343901 : g343863.toInt < 2000 := gj_nleL hc343891 (show Int32.toInt 2000 = 2000 by decide)
                    have bg343863' : gB g343863 0 1999 := ⟨by omega, by omega⟩
                    refine G_aload_n 3 dr_cX17_colours_102 rfl ?_
                    refine Gp_get 1 hm343876 he343875 dr_cX17_colours_103 (gk_X17 D I) (Nat.le_of_ble_eq_true rfl) wr_7_75 rfl ?_
                    refine G_iload_n 2 dr_cX17_colours_106 rfl ?_
                    have hm343902 : (γ 9 1) ∈ P335421 := RS_m hT343865 ht335448 (by decide)
                    obtain ⟨f343904, he343903, hg343905⟩ := show rk_13 I γ (F343864 (γ 9 1)) from RS_o hT343865 ht335448
                    obtain ⟨q343906, hx343908⟩ : ∃ x, x = γ 11 g343380.toInt.toNat := ⟨_, rfl⟩
                    have ht343907 : rKd γ q343906 36 := by rw [hx343908]; exact (hg343905 _ (show g343380.toInt.toNat < 2000 by omega)).2.1
                    refine Gp_aald 5 hm343902 he343903 dr_cX17_colours_107 rfl rfl (gB_in bg343380' (by decide) (by decide)) ?_
                    rw [show f343904 g343380.toNatClampNeg = some q343906 from (hg343905 _ (show g343380.toInt.toNat < 2000 by omega)).1.trans (by rw [hx343908])]
                    change G _ _ _ _ _ _ _ (.ref q343906 :: _) _ _ _
                    refine G_iload 0 dr_cX17_colours_108 rfl ?_
                    have hm343909 : q343906 ∈ P335421 := RS_m hT343865 ht343907 (by decide)
                    obtain ⟨f343911, he343910, wf343911⟩ := show rk_36 I (F343864 q343906) from RS_o hT343865 ht343907
                    refine Gw_callS (As := [.ref q343906, .int g343863]) (gV_ok D I) (cp_1845_SpillForgeModel_has l hl0 D I P335421 F343864 q343906 g343863 f343911 hm343909 he343910 (gB_w bg343863' (by decide) (by decide))) dr_cX17_colours_110 ⟨wr_10_203, wr_1_14, wr_10_205, by decide, rfl, (Nat.le_of_ble_eq_true rfl), (Nat.le_of_ble_eq_true rfl)⟩ wr_10_204 (show 0 + 0 ≤ 0 by first | omega | decide) (show 0 + 0 ≤ 0 by first | omega | decide) (Nat.le_of_ble_eq_true rfl) (fun r343915 w343916 dc343912 ds343913 hp343914 => ?_) (fun _ _ _ _ _ z => z.elim)
                    rcases hp343914 with ⟨z343917, z343918, rfl, rfl, hdc, hds, r343919, r343920, r343921, r343922, r343923⟩ | ⟨z343924, z343925, rfl, rfl, hdc, hds, r343926, r343927, r343928, r343929, r343930⟩
                    · change G _ _ _ _ _ _ _ (.int 0 :: _) _ _ _
                      refine G_widen (cs' := 0) (sl' := 0) (by omega) (by omega) ?_
                      refine G_if_eq 127 dr_cX17_colours_113 (by decide +kernel) (fun _ => ?_) (fun hc => absurd hc (by decide))
                      obtain ⟨z343932, hz343932⟩ : ∃ z : Int32, z = g343863 + Int32.ofInt 1 := ⟨_, rfl⟩
                      have ez343932 : z343932.toInt = g343863.toInt + 1 := gI_inc hz343932 (by decide) bg343863' (by decide) (by decide)
                      have bz343932 : gB z343932 1 2000 := ⟨by omega, by omega⟩
                      refine G_iinc (L' := [(4, .int z343932), (2, .int z343764), (3, .int g343380), (0, .ref q335423), (1, .int p335424)]) z343932 0 dr_cX17_colours_127 rfl hz343932.symm (Nat.le_of_ble_eq_true rfl) rfl ?_
                      refine G_goto 94 dr_cX17_colours_130 (by decide +kernel) ?_
                      exact ih94_343871 F343864 z343932 (gB_w bz343932 (by decide) (by decide)) hT343865 hs343866 (by rw [cB_of he343877, cB_of he343880, cB_of he343883]; exact cq343888) (by rw [cB_of he343880]; exact cq343889) (by rw [cB_of he343880]; exact cq343890) x343870 x343871 (mz_up ez343932 (Int.le_trans bg343863'.2 (by decide)) hm94_343871)
                    · change G _ _ _ _ _ _ _ (.int 1 :: _) _ _ _
                      refine G_widen (cs' := 0) (sl' := 0) (by omega) (by omega) ?_
                      refine G_if_eq 127 dr_cX17_colours_113 (by decide +kernel) (fun hc => absurd hc (by decide)) (fun _ => ?_)
                      refine G_aload_n 3 dr_cX17_colours_116 rfl ?_
                      refine Gp_get 16 hm343876 he343875 dr_cX17_colours_117 (gk_X17 D I) (Nat.le_of_ble_eq_true rfl) wr_7_90 rfl ?_
                      refine G_iload 0 dr_cX17_colours_120 rfl ?_
                      refine G_dup2_11 dr_cX17_colours_122 rfl rfl ?_
                      have hm343933 : (γ 9 16) ∈ P335421 := RS_m hT343865 ht335457 (by decide)
                      obtain ⟨f343935, he343934⟩ := show rk_19 I (F343864 (γ 9 16)) from RS_o hT343865 ht335457
                      refine Gp_iald 0 hm343933 he343934 dr_cX17_colours_123 rfl (gB_in bg343863' (by decide) (by decide)) (G_nam fun z343936 hz343936 => ?_)
                      have bz343936 : gB z343936 (-2147483648) 2147483647 := gB_any z343936
                      refine G_iconst 1 dr_cX17_colours_124 (by decide +kernel) ?_
                      refine G_isub dr_cX17_colours_125 (G_nam fun z343937 hz343937 => ?_)
                      have bz343937 : gB z343937 (-2147483648) 2147483647 := gB_any z343937
                      refine Gp_iast 0 hm343933 he343934 dr_cX17_colours_126 rfl (gB_in bg343863' (by decide) (by decide)) (fun F343938 e343939 n343940 => ?_)
                      obtain ⟨f343941, hf343941⟩ : ∃ z, z = upd f343935 g343863.toNatClampNeg z343937 := ⟨_, rfl⟩
                      rw [← hf343941] at e343939
                      have he343942 : F343938 q335423 = .inr (22, [.ref (γ 9 0), .ref (γ 9 1), .ref (γ 9 2), .ref (γ 9 3), .ref (γ 9 4), .ref (γ 9 5), .ref (γ 9 6), .ref (γ 9 7), .ref (γ 9 8), .int p335430, .int p335431, .int p335432, .int p335433, .int p335434, .int p335435, .ref (γ 9 15), .ref (γ 9 16), .ref (γ 9 17), .ref (γ 9 18), .ref (γ 9 19), .ref (γ 9 20), .ref (γ 9 21), .ref (γ 9 22), .int p335436, .int p335437, .int p335438, .int p335439, .int p335440, .ref q335428, .ref (γ 9 29), .int p335441, .ref (γ 9 31), .int p335442, .int p335443, .int p335444, .ref q335429]) := (n343940 q335423 (rn_oa he343875 he343934)).trans he343875
                      have he343943 : F343938 (γ 9 3) = .inl (I .boolean, 2000, .inl f335475) := (n343940 (γ 9 3) (rn_ty ht335450 ht335457 (by decide))).trans he343877
                      have he343944 : F343938 (γ 9 18) = .inl (I .boolean, 2000, .inl f343881) := (n343940 (γ 9 18) (rn_ty ht335459 ht335457 (by decide))).trans he343880
                      have he343945 : F343938 (γ 9 15) = .inl (I .int, 2000, .inl f343884) := (n343940 (γ 9 15) (rn_ty ht335456 ht335457 (by decide))).trans he343883
                      have he343946 : F343938 (γ 9 17) = .inl (I .int, 2000, .inl f343887) := (n343940 (γ 9 17) (rn_ty ht335458 ht335457 (by decide))).trans he343886
                      have he343947 : F343938 (γ 9 1) = .inl (I (.array .long), 2000, .inr (.inr (.inr (.inr f343904)))) := (n343940 (γ 9 1) (rn_ref_num he343903 he343934)).trans he343903
                      have he343948 : F343938 q343906 = .inl (I .long, 32, .inr (.inl f343911)) := (n343940 q343906 (rn_long_num he343910 he343934)).trans he343910
                      have he343949 : F343938 (γ 9 16) = .inl (I .int, 2000, .inl f343941) := e343939
                      have hs343950 : rStr γ [] F335422 F343938 := rStr_put hs343866 n343940 ht335457 (by decide)
                      have kp343951 : F343938 q335423 = F335422 q335423 := (n343940 q335423 (rn_ty htq335423 ht335457 (by decide))).trans x343870
                      have kp343952 : F343938 (γ 9 3) = F335422 (γ 9 3) := (n343940 (γ 9 3) (rn_ty ht335450 ht335457 (by decide))).trans x343871
                      obtain ⟨z343953, hz343953⟩ : ∃ z : Int32, z = g343863 + Int32.ofInt 1 := ⟨_, rfl⟩
                      have ez343953 : z343953.toInt = g343863.toInt + 1 := gI_inc hz343953 (by decide) bg343863' (by decide) (by decide)
                      have bz343953 : gB z343953 1 2000 := ⟨by omega, by omega⟩
                      refine G_iinc (L' := [(4, .int z343953), (2, .int z343764), (3, .int g343380), (0, .ref q335423), (1, .int p335424)]) z343953 0 dr_cX17_colours_127 rfl hz343953.symm (Nat.le_of_ble_eq_true rfl) rfl ?_
                      refine G_goto 94 dr_cX17_colours_130 (by decide +kernel) ?_
                      have hT343954 : RS D I P335421 F343938 γ el := RS_set hT343865 n343940 ht335457 (by decide) ⟨f343941, he343949⟩
                      exact ih94_343871 F343938 z343953 (gB_w bz343953 (by decide) (by decide)) hT343954 hs343950 (by rw [cB_of he343943, cB_of he343944, cB_of he343945]; exact cq343888) (by rw [cB_of he343944]; exact cq343889) (by rw [cB_of he343944]; exact cq343890) kp343951 kp343952 (mz_up ez343953 (Int.le_trans bg343863'.2 (by decide)) hm94_343871)
              exact hlp94_343871 (((2001 : Int) - 0).toNat + 1) F343766 0 (gB_w (gBl (show Int32.toInt 0 = 0 by decide)) (by decide) (by decide)) hT343779 hs343775 (by rw [ez343764]; rw [cB_of he343771, cB_of he343774, cB_of he343772]; exact pi_u hf343769 hf343755 (by omega) (by omega) cq343407) (by rw [cB_of he343774]; have q := td343778; have q2 := cq343408; omega) (by rw [cB_of he343774]; rw [cB_of he343399]; have q := td343778; omega) kp343776 kp343777 (Nat.lt_succ_self _)
        exact hlp70_343390 ((rcn (cB (F342788 (γ 9 18))) 2000) + 1) F342788 o342818 0 bo342818 (gB_w (gBl (show Int32.toInt 0 = 0 by decide)) (by decide) (by decide)) hT342789 hs342790 (by rw [cB_of he342799, cB_of he342802, cB_of he342805]; exact fun m s => Or.inl (cq342810 m (by have := s.1; omega) s)) (by have q := rcn_le (g := cB (F342788 (γ 9 18))) 2000; have qa : Int32.toInt 0 = 0 := (by decide); omega) x342819 x342820 x342792 x342793 (Nat.lt_succ_self _)
      · have r343955 : g342787.toInt < 2000 := gj_nleL hc342811 (show Int32.toInt 2000 = 2000 by decide)
        have bg342787' : gB g342787 0 1999 := ⟨by omega, by omega⟩
        refine G_aload_n 1 dr_cX17_colours_9 rfl ?_
        refine Gp_get 18 hm342798 he342797 dr_cX17_colours_10 (gk_X17 D I) (Nat.le_of_ble_eq_true rfl) wr_7_92 rfl ?_
        refine G_iload_n 0 dr_cX17_colours_13 rfl ?_
        refine G_aload_n 1 dr_cX17_colours_14 rfl ?_
        refine Gp_get 3 hm342798 he342797 dr_cX17_colours_15 (gk_X17 D I) (Nat.le_of_ble_eq_true rfl) wr_7_77 rfl ?_
        refine G_iload_n 0 dr_cX17_colours_18 rfl ?_
        refine Gp_zald 3 hm342800 he342799 dr_cX17_colours_19 rfl (gB_in bg342787' (by decide) (by decide)) (G_nam fun z343956 hz343956 => ?_)
        have bz343956 : gB z343956 0 1 := by rw [hz343956]; exact bf335475 _
        refine Gp_zast 3 hm342801 he342802 dr_cX17_colours_20 rfl (gB_in bg342787' (by decide) (by decide)) (fun F343957 e343958 n343959 => ?_)
        obtain ⟨f343960, hf343960⟩ : ∃ z, z = upd f342803 g342787.toNatClampNeg (vp_nar .boolean z343956) := ⟨_, rfl⟩
        rw [← hf343960] at e343958
        have he343961 : F343957 q335423 = .inr (22, [.ref (γ 9 0), .ref (γ 9 1), .ref (γ 9 2), .ref (γ 9 3), .ref (γ 9 4), .ref (γ 9 5), .ref (γ 9 6), .ref (γ 9 7), .ref (γ 9 8), .int p335430, .int p335431, .int p335432, .int p335433, .int p335434, .int p335435, .ref (γ 9 15), .ref (γ 9 16), .ref (γ 9 17), .ref (γ 9 18), .ref (γ 9 19), .ref (γ 9 20), .ref (γ 9 21), .ref (γ 9 22), .int p335436, .int p335437, .int p335438, .int p335439, .int p335440, .ref q335428, .ref (γ 9 29), .int p335441, .ref (γ 9 31), .int p335442, .int p335443, .int p335444, .ref q335429]) := (n343959 q335423 (rn_oa he342797 he342802)).trans he342797
        have he343962 : F343957 (γ 9 3) = .inl (I .boolean, 2000, .inl f335475) := (n343959 (γ 9 3) (rn_ty ht335450 ht335459 (by decide))).trans he342799
        have he343963 : F343957 (γ 9 15) = .inl (I .int, 2000, .inl f342806) := (n343959 (γ 9 15) (rn_ty ht335456 ht335459 (by decide))).trans he342805
        have he343964 : F343957 (γ 9 17) = .inl (I .int, 2000, .inl f342809) := (n343959 (γ 9 17) (rn_ty ht335458 ht335459 (by decide))).trans he342808
        have he343965 : F343957 (γ 9 18) = .inl (I .boolean, 2000, .inl f343960) := e343958
        have hs343966 : rStr γ [] F335422 F343957 := rStr_put hs342790 n343959 ht335459 (by decide)
        have kp343967 : F343957 q335423 = F335422 q335423 := (n343959 q335423 (rn_ty htq335423 ht335459 (by decide))).trans x342792
        have kp343968 : F343957 (γ 9 3) = F335422 (γ 9 3) := (n343959 (γ 9 3) (rn_ty ht335450 ht335459 (by decide))).trans x342793
        have bf343960 : gF f343960 0 1 := gF_upd hf343960 bf342803 (gB_nb bz343956)
        refine G_aload_n 1 dr_cX17_colours_21 rfl ?_
        refine Gp_get 16 hm342798 he343961 dr_cX17_colours_22 (gk_X17 D I) (Nat.le_of_ble_eq_true rfl) wr_7_90 rfl ?_
        refine G_iload_n 0 dr_cX17_colours_25 rfl ?_
        refine G_aload_n 1 dr_cX17_colours_26 rfl ?_
        refine Gp_get 3 hm342798 he343961 dr_cX17_colours_27 (gk_X17 D I) (Nat.le_of_ble_eq_true rfl) wr_7_77 rfl ?_
        refine G_iload_n 0 dr_cX17_colours_30 rfl ?_
        refine Gp_zald 3 hm342800 he343962 dr_cX17_colours_31 rfl (gB_in bg342787' (by decide) (by decide)) (G_eqi (y := z343956) hz343956.symm ?_)
        refine G_if_eq 47 dr_cX17_colours_32 (by decide +kernel) (fun hc343969 => ?_) (fun hc343969 => ?_)
        · have r343970 : z343956.toInt = 0 := gj_eq hc343969 (show Int32.toInt 0 = 0 by decide)
          have bz343956' : gB z343956 0 0 := gB_t0 r343970
          refine G_iconst 0 dr_cX17_colours_47 (by decide +kernel) ?_
          have hT343971 : RS D I P335421 F343957 γ el := RS_set hT342789 n343959 ht335459 (by decide) ⟨f343960, he343965, bf343960⟩
          have hm343972 : (γ 9 16) ∈ P335421 := RS_m hT343971 ht335457 (by decide)
          obtain ⟨f343974, he343973⟩ := show rk_19 I (F343957 (γ 9 16)) from RS_o hT343971 ht335457
          refine Gp_iast 0 hm343972 he343973 dr_cX17_colours_48 rfl (gB_in bg342787' (by decide) (by decide)) (fun F343975 e343976 n343977 => ?_)
          obtain ⟨f343978, hf343978⟩ : ∃ z, z = upd f343974 g342787.toNatClampNeg 0 := ⟨_, rfl⟩
          rw [← hf343978] at e343976
          have he343979 : F343975 q335423 = .inr (22, [.ref (γ 9 0), .ref (γ 9 1), .ref (γ 9 2), .ref (γ 9 3), .ref (γ 9 4), .ref (γ 9 5), .ref (γ 9 6), .ref (γ 9 7), .ref (γ 9 8), .int p335430, .int p335431, .int p335432, .int p335433, .int p335434, .int p335435, .ref (γ 9 15), .ref (γ 9 16), .ref (γ 9 17), .ref (γ 9 18), .ref (γ 9 19), .ref (γ 9 20), .ref (γ 9 21), .ref (γ 9 22), .int p335436, .int p335437, .int p335438, .int p335439, .int p335440, .ref q335428, .ref (γ 9 29), .int p335441, .ref (γ 9 31), .int p335442, .int p335443, .int p335444, .ref q335429]) := (n343977 q335423 (rn_oa he343961 he343973)).trans he343961
          have he343980 : F343975 (γ 9 3) = .inl (I .boolean, 2000, .inl f335475) := (n343977 (γ 9 3) (rn_ty ht335450 ht335457 (by decide))).trans he343962
          have he343981 : F343975 (γ 9 18) = .inl (I .boolean, 2000, .inl f343960) := (n343977 (γ 9 18) (rn_ty ht335459 ht335457 (by decide))).trans he343965
          have he343982 : F343975 (γ 9 15) = .inl (I .int, 2000, .inl f342806) := (n343977 (γ 9 15) (rn_ty ht335456 ht335457 (by decide))).trans he343963
          have he343983 : F343975 (γ 9 17) = .inl (I .int, 2000, .inl f342809) := (n343977 (γ 9 17) (rn_ty ht335458 ht335457 (by decide))).trans he343964
          have he343984 : F343975 (γ 9 16) = .inl (I .int, 2000, .inl f343978) := e343976
          have hs343985 : rStr γ [] F335422 F343975 := rStr_put hs343966 n343977 ht335457 (by decide)
          have kp343986 : F343975 q335423 = F335422 q335423 := (n343977 q335423 (rn_ty htq335423 ht335457 (by decide))).trans kp343967
          have kp343987 : F343975 (γ 9 3) = F335422 (γ 9 3) := (n343977 (γ 9 3) (rn_ty ht335450 ht335457 (by decide))).trans kp343968
          refine G_aload_n 1 dr_cX17_colours_49 rfl ?_
          refine Gp_get 17 hm342798 he343979 dr_cX17_colours_50 (gk_X17 D I) (Nat.le_of_ble_eq_true rfl) wr_7_91 rfl ?_
          refine G_iload_n 0 dr_cX17_colours_53 rfl ?_
          refine G_iconst (-1) dr_cX17_colours_54 (by decide +kernel) ?_
          have hT343988 : RS D I P335421 F343975 γ el := RS_set hT343971 n343977 ht335457 (by decide) ⟨f343978, he343984⟩
          refine Gp_iast 0 hm342807 he343983 dr_cX17_colours_55 rfl (gB_in bg342787' (by decide) (by decide)) (fun F343989 e343990 n343991 => ?_)
          obtain ⟨f343992, hf343992⟩ : ∃ z, z = upd f342809 g342787.toNatClampNeg (-1) := ⟨_, rfl⟩
          rw [← hf343992] at e343990
          have he343993 : F343989 q335423 = .inr (22, [.ref (γ 9 0), .ref (γ 9 1), .ref (γ 9 2), .ref (γ 9 3), .ref (γ 9 4), .ref (γ 9 5), .ref (γ 9 6), .ref (γ 9 7), .ref (γ 9 8), .int p335430, .int p335431, .int p335432, .int p335433, .int p335434, .int p335435, .ref (γ 9 15), .ref (γ 9 16), .ref (γ 9 17), .ref (γ 9 18), .ref (γ 9 19), .ref (γ 9 20), .ref (γ 9 21), .ref (γ 9 22), .int p335436, .int p335437, .int p335438, .int p335439, .int p335440, .ref q335428, .ref (γ 9 29), .int p335441, .ref (γ 9 31), .int p335442, .int p335443, .int p335444, .ref q335429]) := (n343991 q335423 (rn_oa he343979 he343983)).trans he343979
          have he343994 : F343989 (γ 9 3) = .inl (I .boolean, 2000, .inl f335475) := (n343991 (γ 9 3) (rn_ty ht335450 ht335458 (by decide))).trans he343980
          have he343995 : F343989 (γ 9 18) = .inl (I .boolean, 2000, .inl f343960) := (n343991 (γ 9 18) (rn_ty ht335459 ht335458 (by decide))).trans he343981
          have he343996 : F343989 (γ 9 15) = .inl (I .int, 2000, .inl f342806) := (n343991 (γ 9 15) (rn_ty ht335456 ht335458 (by decide))).trans he343982
          have he343997 : F343989 (γ 9 16) = .inl (I .int, 2000, .inl f343978) := (n343991 (γ 9 16) (rn_ty ht335457 ht335458 (by decide))).trans he343984
          have he343998 : F343989 (γ 9 17) = .inl (I .int, 2000, .inl f343992) := e343990
          have hs343999 : rStr γ [] F335422 F343989 := rStr_put hs343985 n343991 ht335458 (by decide)
          have kp344000 : F343989 q335423 = F335422 q335423 := (n343991 q335423 (rn_ty htq335423 ht335458 (by decide))).trans kp343986
          have kp344001 : F343989 (γ 9 3) = F335422 (γ 9 3) := (n343991 (γ 9 3) (rn_ty ht335450 ht335458 (by decide))).trans kp343987
          have bf343992 : gF f343992 (-1) 31 := gF_upd hf343992 bf342809 (gB_w (gBl (show Int32.toInt (-1) = (-1) by decide)) (by decide) (by decide))
          obtain ⟨z344002, hz344002⟩ : ∃ z : Int32, z = g342787 + Int32.ofInt 1 := ⟨_, rfl⟩
          have ez344002 : z344002.toInt = g342787.toInt + 1 := gI_inc hz344002 (by decide) bg342787' (by decide) (by decide)
          have bz344002 : gB z344002 1 2000 := ⟨by omega, by omega⟩
          refine G_iinc (L' := [(2, .int z344002), (0, .ref q335423), (1, .int p335424)]) z344002 0 dr_cX17_colours_56 rfl hz344002.symm (Nat.le_of_ble_eq_true rfl) rfl ?_
          refine G_goto 2 dr_cX17_colours_59 (by decide +kernel) ?_
          have hT344003 : RS D I P335421 F343989 γ el := RS_set hT343988 n343991 ht335458 (by decide) ⟨f343992, he343998, bf343992⟩
          exact ih2_342793 F343989 z344002 (gB_w bz344002 (by decide) (by decide)) hT344003 hs343999 (by rw [ez344002]; rw [cB_of he343994, cB_of he343995]; exact th_u hf343960 hz343956 (by assumption) (by omega) cq342810) kp344000 kp344001 (mz_up ez344002 (Int.le_trans bg342787'.2 (by decide)) hm2_342793)
        · have r344004 : z343956.toInt ≠ 0 := gj_neq hc343969 (show Int32.toInt 0 = 0 by decide)
          have bz343956' : gB z343956 1 1 := gB_t1 bz343956 r344004
          refine G_aload_n 1 dr_cX17_colours_35 rfl ?_
          refine Gp_get 1 hm342798 he343961 dr_cX17_colours_36 (gk_X17 D I) (Nat.le_of_ble_eq_true rfl) wr_7_75 rfl ?_
          refine G_iload_n 0 dr_cX17_colours_39 rfl ?_
          have hT344005 : RS D I P335421 F343957 γ el := RS_set hT342789 n343959 ht335459 (by decide) ⟨f343960, he343965, bf343960⟩
          have hm344006 : (γ 9 1) ∈ P335421 := RS_m hT344005 ht335448 (by decide)
          obtain ⟨f344008, he344007, hg344009⟩ := show rk_13 I γ (F343957 (γ 9 1)) from RS_o hT344005 ht335448
          obtain ⟨q344010, hx344012⟩ : ∃ x, x = γ 11 g342787.toInt.toNat := ⟨_, rfl⟩
          have ht344011 : rKd γ q344010 36 := by rw [hx344012]; exact (hg344009 _ (show g342787.toInt.toNat < 2000 by omega)).2.1
          refine Gp_aald 5 hm344006 he344007 dr_cX17_colours_40 rfl rfl (gB_in bg342787' (by decide) (by decide)) ?_
          rw [show f344008 g342787.toNatClampNeg = some q344010 from (hg344009 _ (show g342787.toInt.toNat < 2000 by omega)).1.trans (by rw [hx344012])]
          change G _ _ _ _ _ _ _ (.ref q344010 :: _) _ _ _
          have hm344013 : q344010 ∈ P335421 := RS_m hT344005 ht344011 (by decide)
          obtain ⟨f344015, he344014, wf344015⟩ := show rk_36 I (F343957 q344010) from RS_o hT344005 ht344011
          refine Gw_callS (As := [.ref q344010]) (gV_ok D I) (cp_1899_SpillForgeModel_count l hl0 D I P335421 F343957 q344010 f344015 hm344013 he344014) dr_cX17_colours_41 ⟨wr_11_16, wr_1_14, wr_11_18, by decide, rfl, (Nat.le_of_ble_eq_true rfl), (Nat.le_of_ble_eq_true rfl)⟩ wr_11_17 (show 0 + 0 ≤ 0 by first | omega | decide) (show 0 + 0 ≤ 0 by first | omega | decide) (Nat.le_of_ble_eq_true rfl) (fun r344019 w344020 dc344016 ds344017 hp344018 => ?_) (fun _ _ _ _ _ z => z.elim)
          obtain ⟨o344021, rfl, rfl, hdc, hds, ht344022⟩ := hp344018
          have bo344021 := gB_any o344021
          change G _ _ _ _ _ _ _ (.int o344021 :: _) _ _ _
          refine G_widen (cs' := 0) (sl' := 0) (by omega) (by omega) ?_
          refine G_goto 48 dr_cX17_colours_44 (by decide +kernel) ?_
          have hm344023 : (γ 9 16) ∈ P335421 := RS_m hT344005 ht335457 (by decide)
          obtain ⟨f344025, he344024⟩ := show rk_19 I (F343957 (γ 9 16)) from RS_o hT344005 ht335457
          refine Gp_iast 0 hm344023 he344024 dr_cX17_colours_48 rfl (gB_in bg342787' (by decide) (by decide)) (fun F344026 e344027 n344028 => ?_)
          obtain ⟨f344029, hf344029⟩ : ∃ z, z = upd f344025 g342787.toNatClampNeg o344021 := ⟨_, rfl⟩
          rw [← hf344029] at e344027
          have he344030 : F344026 q335423 = .inr (22, [.ref (γ 9 0), .ref (γ 9 1), .ref (γ 9 2), .ref (γ 9 3), .ref (γ 9 4), .ref (γ 9 5), .ref (γ 9 6), .ref (γ 9 7), .ref (γ 9 8), .int p335430, .int p335431, .int p335432, .int p335433, .int p335434, .int p335435, .ref (γ 9 15), .ref (γ 9 16), .ref (γ 9 17), .ref (γ 9 18), .ref (γ 9 19), .ref (γ 9 20), .ref (γ 9 21), .ref (γ 9 22), .int p335436, .int p335437, .int p335438, .int p335439, .int p335440, .ref q335428, .ref (γ 9 29), .int p335441, .ref (γ 9 31), .int p335442, .int p335443, .int p335444, .ref q335429]) := (n344028 q335423 (rn_oa he343961 he344024)).trans he343961
          have he344031 : F344026 (γ 9 3) = .inl (I .boolean, 2000, .inl f335475) := (n344028 (γ 9 3) (rn_ty ht335450 ht335457 (by decide))).trans he343962
          have he344032 : F344026 (γ 9 18) = .inl (I .boolean, 2000, .inl f343960) := (n344028 (γ 9 18) (rn_ty ht335459 ht335457 (by decide))).trans he343965
          have he344033 : F344026 (γ 9 15) = .inl (I .int, 2000, .inl f342806) := (n344028 (γ 9 15) (rn_ty ht335456 ht335457 (by decide))).trans he343963
          have he344034 : F344026 (γ 9 17) = .inl (I .int, 2000, .inl f342809) := (n344028 (γ 9 17) (rn_ty ht335458 ht335457 (by decide))).trans he343964
          have he344035 : F344026 (γ 9 1) = .inl (I (.array .long), 2000, .inr (.inr (.inr (.inr f344008)))) := (n344028 (γ 9 1) (rn_ref_num he344007 he344024)).trans he344007
          have he344036 : F344026 q344010 = .inl (I .long, 32, .inr (.inl f344015)) := (n344028 q344010 (rn_long_num he344014 he344024)).trans he344014
          have he344037 : F344026 (γ 9 16) = .inl (I .int, 2000, .inl f344029) := e344027
          have hs344038 : rStr γ [] F335422 F344026 := rStr_put hs343966 n344028 ht335457 (by decide)
          have kp344039 : F344026 q335423 = F335422 q335423 := (n344028 q335423 (rn_ty htq335423 ht335457 (by decide))).trans kp343967
          have kp344040 : F344026 (γ 9 3) = F335422 (γ 9 3) := (n344028 (γ 9 3) (rn_ty ht335450 ht335457 (by decide))).trans kp343968
          refine G_aload_n 1 dr_cX17_colours_49 rfl ?_
          refine Gp_get 17 hm342798 he344030 dr_cX17_colours_50 (gk_X17 D I) (Nat.le_of_ble_eq_true rfl) wr_7_91 rfl ?_
          refine G_iload_n 0 dr_cX17_colours_53 rfl ?_
          refine G_iconst (-1) dr_cX17_colours_54 (by decide +kernel) ?_
          have hT344041 : RS D I P335421 F344026 γ el := RS_set hT344005 n344028 ht335457 (by decide) ⟨f344029, he344037⟩
          refine Gp_iast 0 hm342807 he344034 dr_cX17_colours_55 rfl (gB_in bg342787' (by decide) (by decide)) (fun F344042 e344043 n344044 => ?_)
          obtain ⟨f344045, hf344045⟩ : ∃ z, z = upd f342809 g342787.toNatClampNeg (-1) := ⟨_, rfl⟩
          rw [← hf344045] at e344043
          have he344046 : F344042 q335423 = .inr (22, [.ref (γ 9 0), .ref (γ 9 1), .ref (γ 9 2), .ref (γ 9 3), .ref (γ 9 4), .ref (γ 9 5), .ref (γ 9 6), .ref (γ 9 7), .ref (γ 9 8), .int p335430, .int p335431, .int p335432, .int p335433, .int p335434, .int p335435, .ref (γ 9 15), .ref (γ 9 16), .ref (γ 9 17), .ref (γ 9 18), .ref (γ 9 19), .ref (γ 9 20), .ref (γ 9 21), .ref (γ 9 22), .int p335436, .int p335437, .int p335438, .int p335439, .int p335440, .ref q335428, .ref (γ 9 29), .int p335441, .ref (γ 9 31), .int p335442, .int p335443, .int p335444, .ref q335429]) := (n344044 q335423 (rn_oa he344030 he344034)).trans he344030
          have he344047 : F344042 (γ 9 3) = .inl (I .boolean, 2000, .inl f335475) := (n344044 (γ 9 3) (rn_ty ht335450 ht335458 (by decide))).trans he344031
          have he344048 : F344042 (γ 9 18) = .inl (I .boolean, 2000, .inl f343960) := (n344044 (γ 9 18) (rn_ty ht335459 ht335458 (by decide))).trans he344032
          have he344049 : F344042 (γ 9 15) = .inl (I .int, 2000, .inl f342806) := (n344044 (γ 9 15) (rn_ty ht335456 ht335458 (by decide))).trans he344033
          have he344050 : F344042 (γ 9 1) = .inl (I (.array .long), 2000, .inr (.inr (.inr (.inr f344008)))) := (n344044 (γ 9 1) (rn_ref_num he344035 he344034)).trans he344035
          have he344051 : F344042 q344010 = .inl (I .long, 32, .inr (.inl f344015)) := (n344044 q344010 (rn_long_num he344036 he344034)).trans he344036
          have he344052 : F344042 (γ 9 16) = .inl (I .int, 2000, .inl f344029) := (n344044 (γ 9 16) (rn_ty ht335457 ht335458 (by decide))).trans he344037
          have he344053 : F344042 (γ 9 17) = .inl (I .int, 2000, .inl f344045) := e344043
          have hs344054 : rStr γ [] F335422 F344042 := rStr_put hs344038 n344044 ht335458 (by decide)
          have kp344055 : F344042 q335423 = F335422 q335423 := (n344044 q335423 (rn_ty htq335423 ht335458 (by decide))).trans kp344039
          have kp344056 : F344042 (γ 9 3) = F335422 (γ 9 3) := (n344044 (γ 9 3) (rn_ty ht335450 ht335458 (by decide))).trans kp344040
          have bf344045 : gF f344045 (-1) 31 := gF_upd hf344045 bf342809 (gB_w (gBl (show Int32.toInt (-1) = (-1) by decide)) (by decide) (by decide))
          obtain ⟨z344057, hz344057⟩ : ∃ z : Int32, z = g342787 + Int32.ofInt 1 := ⟨_, rfl⟩
          have ez344057 : z344057.toInt = g342787.toInt + 1 := gI_inc hz344057 (by decide) bg342787' (by decide) (by decide)
          have bz344057 : gB z344057 1 2000 := ⟨by omega, by omega⟩
          refine G_iinc (L' := [(2, .int z344057), (0, .ref q335423), (1, .int p335424)]) z344057 0 dr_cX17_colours_56 rfl hz344057.symm (Nat.le_of_ble_eq_true rfl) rfl ?_
          refine G_goto 2 dr_cX17_colours_59 (by decide +kernel) ?_
          have hT344058 : RS D I P335421 F344042 γ el := RS_set hT344041 n344044 ht335458 (by decide) ⟨f344045, he344053, bf344045⟩
          exact ih2_342793 F344042 z344057 (gB_w bz344057 (by decide) (by decide)) hT344058 hs344054 (by rw [ez344057]; rw [cB_of he344047, cB_of he344048]; exact th_u hf343960 hz343956 (by assumption) (by omega) cq342810) kp344055 kp344056 (mz_up ez344057 (Int.le_trans bg342787'.2 (by decide)) hm2_342793)
  exact hlp2_342793 (((2001 : Int) - 0).toNat + 1) F335422 0 (gB_w (gBl (show Int32.toInt 0 = 0 by decide)) (by decide) (by decide)) hT (rStr_rf (γ := γ) (W := []) (F := F335422)) (fun m hm => absurd hm (by have qa : Int32.toInt 0 = 0 := (by decide); omega)) rfl rfl (Nat.lt_succ_self _)
