theorem dr_cX17_colours_0 : decode cX17_colours 0 = .ok (.iconst 0, 1) := by decide +kernel
theorem dr_cX17_colours_1 : decode cX17_colours 1 = .ok (.istore_n 2, 1) := by decide +kernel
theorem dr_cX17_colours_2 : decode cX17_colours 2 = .ok (.iload_n 2, 1) := by decide +kernel
theorem dr_cX17_colours_3 : decode cX17_colours 3 = .ok (.sipush 2000, 3) := by decide +kernel
theorem dr_cX17_colours_6 : decode cX17_colours 6 = .ok (.if_icmp .ge 56, 3) := by decide +kernel
theorem dr_cX17_colours_62 : decode cX17_colours 62 = .ok (.iconst 0, 1) := by decide +kernel
theorem dr_cX17_colours_63 : decode cX17_colours 63 = .ok (.istore_n 2, 1) := by decide +kernel
theorem dr_cX17_colours_64 : decode cX17_colours 64 = .ok (.aload_n 0, 1) := by decide +kernel
theorem dr_cX17_colours_65 : decode cX17_colours 65 = .ok (.iload_n 1, 1) := by decide +kernel
theorem dr_cX17_colours_66 : decode cX17_colours 66 = .ok (.invokevirtual 215, 3) := by decide +kernel
theorem wr_11_51 : (Jvm.Cond.methodLink "SpillForgeModel" (215 : Nat) ({ cls := "SpillForgeModel", name := "next", desc := "(I)I" } : Jvm.MethodName)) ∈ gw := gw_11 51 rfl rfl
theorem wr_11_54 : (Jvm.Cond.code ({ cls := "SpillForgeModel", name := "next", desc := "(I)I" } : Jvm.MethodName) prog_14_method_20_code (7 : Nat) (Option.some Jvm.ClassFile.FieldType.int)) ∈ gw := gw_11 54 rfl rfl
theorem wr_11_53 : (Jvm.Cond.instanceMethod ({ cls := "SpillForgeModel", name := "next", desc := "(I)I" } : Jvm.MethodName)) ∈ gw := gw_11 53 rfl rfl
theorem wr_p_107 : Cond.selects "SpillForgeModel" ⟨"SpillForgeModel", "next", "(I)I"⟩ ⟨"SpillForgeModel", "next", "(I)I"⟩ ∈ gw := gw_p _ 107 rfl rfl rfl
theorem dr_cX17_colours_69 : decode cX17_colours 69 = .ok (.istore_n 3, 1) := by decide +kernel
theorem dr_cX17_colours_70 : decode cX17_colours 70 = .ok (.iload_n 3, 1) := by decide +kernel
theorem dr_cX17_colours_71 : decode cX17_colours 71 = .ok (.ifCond .lt 71, 3) := by decide +kernel
theorem dr_cX17_colours_142 : decode cX17_colours 142 = .ok (.iconst 0, 1) := by decide +kernel
theorem dr_cX17_colours_143 : decode cX17_colours 143 = .ok (.istore_n 3, 1) := by decide +kernel
theorem dr_cX17_colours_144 : decode cX17_colours 144 = .ok (.iload_n 2, 1) := by decide +kernel
theorem dr_cX17_colours_145 : decode cX17_colours 145 = .ok (.ifCond .le 108, 3) := by decide +kernel
theorem dr_cX17_colours_253 : decode cX17_colours 253 = .ok (.iload_n 3, 1) := by decide +kernel
theorem dr_cX17_colours_254 : decode cX17_colours 254 = .ok (.ireturn, 1) := by decide +kernel
theorem dr_cX17_colours_148 : decode cX17_colours 148 = .ok (.iinc 2 (-1), 3) := by decide +kernel
theorem dr_cX17_colours_151 : decode cX17_colours 151 = .ok (.aload_n 0, 1) := by decide +kernel
theorem dr_cX17_colours_152 : decode cX17_colours 152 = .ok (.getfield 218, 3) := by decide +kernel
theorem wr_7_89 : (Jvm.Cond.fieldLink "SpillForgeModel" (218 : Nat) "SpillForgeModel" "pile" "[I") ∈ gw := gw_7 89 rfl rfl
theorem dr_cX17_colours_155 : decode cX17_colours 155 = .ok (.iload_n 2, 1) := by decide +kernel
theorem dr_cX17_colours_156 : decode cX17_colours 156 = .ok (.iaload, 1) := by decide +kernel
theorem dr_cX17_colours_157 : decode cX17_colours 157 = .ok (.istore 4, 2) := by decide +kernel
theorem dr_cX17_colours_159 : decode cX17_colours 159 = .ok (.lconst 0, 1) := by decide +kernel
theorem dr_cX17_colours_160 : decode cX17_colours 160 = .ok (.lstore 5, 2) := by decide +kernel
theorem dr_cX17_colours_162 : decode cX17_colours 162 = .ok (.iconst 0, 1) := by decide +kernel
theorem dr_cX17_colours_163 : decode cX17_colours 163 = .ok (.istore 7, 2) := by decide +kernel
theorem dr_cX17_colours_165 : decode cX17_colours 165 = .ok (.iload 7, 2) := by decide +kernel
theorem dr_cX17_colours_167 : decode cX17_colours 167 = .ok (.sipush 2000, 3) := by decide +kernel
theorem dr_cX17_colours_170 : decode cX17_colours 170 = .ok (.if_icmp .ge 48, 3) := by decide +kernel
theorem dr_cX17_colours_218 : decode cX17_colours 218 = .ok (.lload 5, 2) := by decide +kernel
theorem dr_cX17_colours_220 : decode cX17_colours 220 = .ok (.ldc2_w 31, 3) := by decide +kernel
theorem dr_cX17_colours_223 : decode cX17_colours 223 = .ok (.lxor, 1) := by decide +kernel
theorem dr_cX17_colours_224 : decode cX17_colours 224 = .ok (.invokestatic 149, 3) := by decide +kernel
theorem dr_cX17_colours_227 : decode cX17_colours 227 = .ok (.istore 7, 2) := by decide +kernel
theorem dr_cX17_colours_229 : decode cX17_colours 229 = .ok (.iload 7, 2) := by decide +kernel
theorem dr_cX17_colours_231 : decode cX17_colours 231 = .ok (.iload_n 1, 1) := by decide +kernel
theorem dr_cX17_colours_232 : decode cX17_colours 232 = .ok (.if_icmp .ge 15, 3) := by decide +kernel
theorem dr_cX17_colours_247 : decode cX17_colours 247 = .ok (.iinc 3 1, 3) := by decide +kernel
theorem dr_cX17_colours_250 : decode cX17_colours 250 = .ok (.goto (-106), 3) := by decide +kernel
theorem dr_cX17_colours_235 : decode cX17_colours 235 = .ok (.aload_n 0, 1) := by decide +kernel
theorem dr_cX17_colours_236 : decode cX17_colours 236 = .ok (.getfield 212, 3) := by decide +kernel
theorem wr_7_91 : (Jvm.Cond.fieldLink "SpillForgeModel" (212 : Nat) "SpillForgeModel" "colour" "[I") ∈ gw := gw_7 91 rfl rfl
theorem dr_cX17_colours_239 : decode cX17_colours 239 = .ok (.iload 4, 2) := by decide +kernel
theorem dr_cX17_colours_241 : decode cX17_colours 241 = .ok (.iload 7, 2) := by decide +kernel
theorem dr_cX17_colours_243 : decode cX17_colours 243 = .ok (.iastore, 1) := by decide +kernel
theorem dr_cX17_colours_244 : decode cX17_colours 244 = .ok (.goto 6, 3) := by decide +kernel
theorem dr_cX17_colours_173 : decode cX17_colours 173 = .ok (.aload_n 0, 1) := by decide +kernel
theorem dr_cX17_colours_174 : decode cX17_colours 174 = .ok (.getfield 212, 3) := by decide +kernel
theorem dr_cX17_colours_177 : decode cX17_colours 177 = .ok (.iload 7, 2) := by decide +kernel
theorem dr_cX17_colours_179 : decode cX17_colours 179 = .ok (.iaload, 1) := by decide +kernel
theorem dr_cX17_colours_180 : decode cX17_colours 180 = .ok (.ifCond .lt 32, 3) := by decide +kernel
theorem dr_cX17_colours_212 : decode cX17_colours 212 = .ok (.iinc 7 1, 3) := by decide +kernel
theorem dr_cX17_colours_215 : decode cX17_colours 215 = .ok (.goto (-50), 3) := by decide +kernel
theorem dr_cX17_colours_183 : decode cX17_colours 183 = .ok (.aload_n 0, 1) := by decide +kernel
theorem dr_cX17_colours_184 : decode cX17_colours 184 = .ok (.getfield 135, 3) := by decide +kernel
theorem dr_cX17_colours_187 : decode cX17_colours 187 = .ok (.iload 4, 2) := by decide +kernel
theorem dr_cX17_colours_189 : decode cX17_colours 189 = .ok (.aaload, 1) := by decide +kernel
theorem dr_cX17_colours_190 : decode cX17_colours 190 = .ok (.iload 7, 2) := by decide +kernel
theorem dr_cX17_colours_192 : decode cX17_colours 192 = .ok (.invokestatic 145, 3) := by decide +kernel
theorem dr_cX17_colours_195 : decode cX17_colours 195 = .ok (.ifCond .eq 17, 3) := by decide +kernel
theorem dr_cX17_colours_198 : decode cX17_colours 198 = .ok (.lload 5, 2) := by decide +kernel
theorem dr_cX17_colours_200 : decode cX17_colours 200 = .ok (.lconst 1, 1) := by decide +kernel
theorem dr_cX17_colours_201 : decode cX17_colours 201 = .ok (.aload_n 0, 1) := by decide +kernel
theorem dr_cX17_colours_202 : decode cX17_colours 202 = .ok (.getfield 212, 3) := by decide +kernel
theorem dr_cX17_colours_205 : decode cX17_colours 205 = .ok (.iload 7, 2) := by decide +kernel
theorem dr_cX17_colours_207 : decode cX17_colours 207 = .ok (.iaload, 1) := by decide +kernel
theorem dr_cX17_colours_208 : decode cX17_colours 208 = .ok (.lshl, 1) := by decide +kernel
theorem dr_cX17_colours_209 : decode cX17_colours 209 = .ok (.lor, 1) := by decide +kernel
theorem dr_cX17_colours_210 : decode cX17_colours 210 = .ok (.lstore 5, 2) := by decide +kernel
theorem dr_cX17_colours_74 : decode cX17_colours 74 = .ok (.aload_n 0, 1) := by decide +kernel
theorem dr_cX17_colours_75 : decode cX17_colours 75 = .ok (.getfield 218, 3) := by decide +kernel
theorem dr_cX17_colours_78 : decode cX17_colours 78 = .ok (.iload_n 2, 1) := by decide +kernel
theorem dr_cX17_colours_79 : decode cX17_colours 79 = .ok (.iload_n 3, 1) := by decide +kernel
theorem dr_cX17_colours_80 : decode cX17_colours 80 = .ok (.iastore, 1) := by decide +kernel
theorem dr_cX17_colours_81 : decode cX17_colours 81 = .ok (.iinc 2 1, 3) := by decide +kernel
theorem dr_cX17_colours_84 : decode cX17_colours 84 = .ok (.aload_n 0, 1) := by decide +kernel
theorem dr_cX17_colours_85 : decode cX17_colours 85 = .ok (.getfield 206, 3) := by decide +kernel
theorem dr_cX17_colours_88 : decode cX17_colours 88 = .ok (.iload_n 3, 1) := by decide +kernel
theorem dr_cX17_colours_89 : decode cX17_colours 89 = .ok (.iconst 0, 1) := by decide +kernel
theorem dr_cX17_colours_90 : decode cX17_colours 90 = .ok (.bastore, 1) := by decide +kernel
theorem dr_cX17_colours_91 : decode cX17_colours 91 = .ok (.iconst 0, 1) := by decide +kernel
theorem dr_cX17_colours_92 : decode cX17_colours 92 = .ok (.istore 4, 2) := by decide +kernel
theorem dr_cX17_colours_94 : decode cX17_colours 94 = .ok (.iload 4, 2) := by decide +kernel
theorem dr_cX17_colours_96 : decode cX17_colours 96 = .ok (.sipush 2000, 3) := by decide +kernel
theorem dr_cX17_colours_99 : decode cX17_colours 99 = .ok (.if_icmp .ge 34, 3) := by decide +kernel
theorem dr_cX17_colours_133 : decode cX17_colours 133 = .ok (.aload_n 0, 1) := by decide +kernel
theorem dr_cX17_colours_134 : decode cX17_colours 134 = .ok (.iload_n 1, 1) := by decide +kernel
theorem dr_cX17_colours_135 : decode cX17_colours 135 = .ok (.invokevirtual 215, 3) := by decide +kernel
theorem dr_cX17_colours_138 : decode cX17_colours 138 = .ok (.istore_n 3, 1) := by decide +kernel
theorem dr_cX17_colours_139 : decode cX17_colours 139 = .ok (.goto (-69), 3) := by decide +kernel
theorem dr_cX17_colours_102 : decode cX17_colours 102 = .ok (.aload_n 0, 1) := by decide +kernel
theorem dr_cX17_colours_103 : decode cX17_colours 103 = .ok (.getfield 135, 3) := by decide +kernel
theorem dr_cX17_colours_106 : decode cX17_colours 106 = .ok (.iload_n 3, 1) := by decide +kernel
theorem dr_cX17_colours_107 : decode cX17_colours 107 = .ok (.aaload, 1) := by decide +kernel
theorem dr_cX17_colours_108 : decode cX17_colours 108 = .ok (.iload 4, 2) := by decide +kernel
theorem dr_cX17_colours_110 : decode cX17_colours 110 = .ok (.invokestatic 145, 3) := by decide +kernel
theorem dr_cX17_colours_113 : decode cX17_colours 113 = .ok (.ifCond .eq 14, 3) := by decide +kernel
theorem dr_cX17_colours_127 : decode cX17_colours 127 = .ok (.iinc 4 1, 3) := by decide +kernel
theorem dr_cX17_colours_130 : decode cX17_colours 130 = .ok (.goto (-36), 3) := by decide +kernel
theorem dr_cX17_colours_116 : decode cX17_colours 116 = .ok (.aload_n 0, 1) := by decide +kernel
theorem dr_cX17_colours_117 : decode cX17_colours 117 = .ok (.getfield 209, 3) := by decide +kernel
theorem dr_cX17_colours_120 : decode cX17_colours 120 = .ok (.iload 4, 2) := by decide +kernel
theorem dr_cX17_colours_122 : decode cX17_colours 122 = .ok (.dup2, 1) := by decide +kernel
theorem dr_cX17_colours_123 : decode cX17_colours 123 = .ok (.iaload, 1) := by decide +kernel
theorem dr_cX17_colours_124 : decode cX17_colours 124 = .ok (.iconst 1, 1) := by decide +kernel
theorem dr_cX17_colours_125 : decode cX17_colours 125 = .ok (.isub, 1) := by decide +kernel
theorem dr_cX17_colours_126 : decode cX17_colours 126 = .ok (.iastore, 1) := by decide +kernel
theorem dr_cX17_colours_9 : decode cX17_colours 9 = .ok (.aload_n 0, 1) := by decide +kernel
theorem dr_cX17_colours_10 : decode cX17_colours 10 = .ok (.getfield 206, 3) := by decide +kernel
theorem dr_cX17_colours_13 : decode cX17_colours 13 = .ok (.iload_n 2, 1) := by decide +kernel
theorem dr_cX17_colours_14 : decode cX17_colours 14 = .ok (.aload_n 0, 1) := by decide +kernel
theorem dr_cX17_colours_15 : decode cX17_colours 15 = .ok (.getfield 131, 3) := by decide +kernel
theorem dr_cX17_colours_18 : decode cX17_colours 18 = .ok (.iload_n 2, 1) := by decide +kernel
theorem dr_cX17_colours_19 : decode cX17_colours 19 = .ok (.baload, 1) := by decide +kernel
theorem dr_cX17_colours_20 : decode cX17_colours 20 = .ok (.bastore, 1) := by decide +kernel
theorem dr_cX17_colours_21 : decode cX17_colours 21 = .ok (.aload_n 0, 1) := by decide +kernel
theorem dr_cX17_colours_22 : decode cX17_colours 22 = .ok (.getfield 209, 3) := by decide +kernel
theorem dr_cX17_colours_25 : decode cX17_colours 25 = .ok (.iload_n 2, 1) := by decide +kernel
theorem dr_cX17_colours_26 : decode cX17_colours 26 = .ok (.aload_n 0, 1) := by decide +kernel
theorem dr_cX17_colours_27 : decode cX17_colours 27 = .ok (.getfield 131, 3) := by decide +kernel
theorem dr_cX17_colours_30 : decode cX17_colours 30 = .ok (.iload_n 2, 1) := by decide +kernel
theorem dr_cX17_colours_31 : decode cX17_colours 31 = .ok (.baload, 1) := by decide +kernel
theorem dr_cX17_colours_32 : decode cX17_colours 32 = .ok (.ifCond .eq 15, 3) := by decide +kernel
theorem dr_cX17_colours_47 : decode cX17_colours 47 = .ok (.iconst 0, 1) := by decide +kernel
theorem dr_cX17_colours_48 : decode cX17_colours 48 = .ok (.iastore, 1) := by decide +kernel
theorem dr_cX17_colours_49 : decode cX17_colours 49 = .ok (.aload_n 0, 1) := by decide +kernel
theorem dr_cX17_colours_50 : decode cX17_colours 50 = .ok (.getfield 212, 3) := by decide +kernel
theorem dr_cX17_colours_53 : decode cX17_colours 53 = .ok (.iload_n 2, 1) := by decide +kernel
theorem dr_cX17_colours_54 : decode cX17_colours 54 = .ok (.iconst (-1), 1) := by decide +kernel
theorem dr_cX17_colours_55 : decode cX17_colours 55 = .ok (.iastore, 1) := by decide +kernel
theorem dr_cX17_colours_56 : decode cX17_colours 56 = .ok (.iinc 2 1, 3) := by decide +kernel
theorem dr_cX17_colours_59 : decode cX17_colours 59 = .ok (.goto (-57), 3) := by decide +kernel
theorem dr_cX17_colours_35 : decode cX17_colours 35 = .ok (.aload_n 0, 1) := by decide +kernel
theorem dr_cX17_colours_36 : decode cX17_colours 36 = .ok (.getfield 135, 3) := by decide +kernel
theorem dr_cX17_colours_39 : decode cX17_colours 39 = .ok (.iload_n 2, 1) := by decide +kernel
theorem dr_cX17_colours_40 : decode cX17_colours 40 = .ok (.aaload, 1) := by decide +kernel
theorem dr_cX17_colours_41 : decode cX17_colours 41 = .ok (.invokestatic 202, 3) := by decide +kernel
theorem dr_cX17_colours_44 : decode cX17_colours 44 = .ok (.goto 4, 3) := by decide +kernel
abbrev ky_376378_SpillForgeModel_next : gKey := (cX17_next, 7, "SpillForgeModel", (some FieldType.int), [], "next", fun _ _ => True)
def pt_376378_SpillForgeModel_next (D : va_G) (I : FieldType → ClassId) (γ el : Nat → Nat → Nat) (P376374 : List Nat) (F376375 : Nat → va_E) (q376376 : Nat) (p376377 : Int32) : Option Value → va_W → Nat → Nat → Prop := fun r w dc ds => ∃ (o377084 : Int32), r = some (.int o377084) ∧ w = va_pl P376374 F376375 ∧ dc ≤ 0 ∧ ds ≤ 0 ∧ gB o377084 (-1) 1999 ∧ (0 ≤ o377084.toInt → rSd (cB (F376375 (γ 9 18))) (o377084.toInt : Int).toNat) ∧ (o377084.toInt < 0 → ∀ m : Nat, ¬ rSd (cB (F376375 (γ 9 18))) m)
set_option maxRecDepth 100000 in
set_option maxHeartbeats 4000000 in
theorem ct_376378_SpillForgeModel_next (l : Launch) (hl0 : l.stackTraces = false) (D : va_G) (I : FieldType → ClassId) (γ el : Nat → Nat → Nat) (P376374 : List Nat) (F376375 : Nat → va_E) (q376376 : Nat) (p376377 : Int32) (hT : RS D I P376374 F376375 γ el) (htq376376 : rKd γ q376376 10) : CtA (gV D I) l yX17_next cX17_next 7 (some FieldType.int) 0 0 0 0 [.ref q376376, .int p376377] (va_pl P376374 F376375) (pt_376378_SpillForgeModel_next D I γ el P376374 F376375 q376376 p376377) gNA := by
  refine CtA_of hl0 (by decide) (Nat.le_of_ble_eq_true rfl) ?_
  have bp376377 := gB_any p376377
  have hm376379 : q376376 ∈ P376374 := RS_m hT htq376376 (by decide)
  obtain ⟨q376381, q376382, p376383, p376384, p376385, p376386, p376387, p376388, p376389, p376390, p376391, p376392, p376393, p376394, p376395, p376396, p376397, he376380, hB376424, ht376398, ht376399, ht376400, ht376401, ht376402, ht376403, ht376404, ht376405, ht376406, ht376407, ht376408, ht376409, ht376410, ht376411, ht376412, ht376413, ht376414, ht376415, ht376416, ht376417, ht376418, ht376419, ht376420, ht376421, hB376425⟩ := show rk_10 γ (F376375 q376376) from RS_o hT htq376376
  have hm376426 : (γ 9 18) ∈ P376374 := RS_m hT ht376412 (by decide)
  obtain ⟨f376428, he376427, bf376428⟩ := show rk_15 I (F376375 (γ 9 18)) from RS_o hT ht376412
  refine G_iconst 0 dr_cX17_next_0 (by decide +kernel) ?_
  refine G_istore_n (L' := [(2, .int 0), (0, .ref q376376), (1, .int p376377)]) dr_cX17_next_1 (Nat.le_of_ble_eq_true rfl) rfl ?_
  have hlp2_376883 : ∀ (n2_376883 : Nat) (g376883 : Int32), gB g376883 0 2000 → ((2001 : Int) - g376883.toInt).toNat < n2_376883 → G (gV D I) l (gRm 0 0 0 0) (gMA (gV D I) (pt_376378_SpillForgeModel_next D I γ el P376374 F376375 q376376 p376377) gNA 0 0) ky_376378_SpillForgeModel_next 2 [(2, .int g376883), (0, .ref q376376), (1, .int p376377)] [] (va_pl P376374 F376375) 0 0 := by
    intro n2_376883
    induction n2_376883 with
    | zero => intro g376883 bg376883 hm2_376883; exact absurd hm2_376883 (Nat.not_lt_zero _)
    | succ n2_376883 ih2_376883 =>
      intro g376883 bg376883 hm2_376883
      refine G_iload_n 0 dr_cX17_next_2 rfl ?_
      refine G_sipush 2000 dr_cX17_next_3 (by decide +kernel) ?_
      refine G_icmp_ge 36 dr_cX17_next_6 (by decide +kernel) (fun hc376885 => ?_) (fun hc376885 => ?_)
      · have r376886 : 2000 ≤ g376883.toInt := gj_leL hc376885 (show Int32.toInt 2000 = 2000 by decide)
        have bg376883' : gB g376883 2000 2000 := ⟨by omega, by omega⟩
        refine G_iconst (-1) dr_cX17_next_36 (by decide +kernel) ?_
        refine G_istore_n (L' := [(2, .int (-1)), (0, .ref q376376), (1, .int p376377)]) dr_cX17_next_37 (Nat.le_of_ble_eq_true rfl) rfl ?_
        refine G_iconst 0 dr_cX17_next_38 (by decide +kernel) ?_
        refine G_istore_n (L' := [(3, .int 0), (2, .int (-1)), (0, .ref q376376), (1, .int p376377)]) dr_cX17_next_39 (Nat.le_of_ble_eq_true rfl) rfl ?_
        have hlp40_376980 : ∀ (n40_376980 : Nat) (g376977 : Int32) (g376978 : Int32), gB g376977 0 2000 → gB g376978 (-1) 1999 → (g376978.toInt < 0 → ∀ m : Nat, (m : Int) < g376977.toInt → ¬ rSd (cB (F376375 (γ 9 18))) m) → (0 ≤ g376978.toInt → rSd (cB (F376375 (γ 9 18))) (g376978.toInt : Int).toNat) → ((2001 : Int) - g376977.toInt).toNat < n40_376980 → G (gV D I) l (gRm 0 0 0 0) (gMA (gV D I) (pt_376378_SpillForgeModel_next D I γ el P376374 F376375 q376376 p376377) gNA 0 0) ky_376378_SpillForgeModel_next 40 [(3, .int g376977), (2, .int g376978), (0, .ref q376376), (1, .int p376377)] [] (va_pl P376374 F376375) 0 0 := by
          intro n40_376980
          induction n40_376980 with
          | zero => intro g376977 g376978 bg376977 bg376978 x376979 x376980 hm40_376980; exact absurd hm40_376980 (Nat.not_lt_zero _)
          | succ n40_376980 ih40_376980 =>
            intro g376977 g376978 bg376977 bg376978 x376979 x376980 hm40_376980
            refine G_iload_n 0 dr_cX17_next_40 rfl ?_
            refine G_sipush 2000 dr_cX17_next_41 (by decide +kernel) ?_
            refine G_icmp_ge 171 dr_cX17_next_44 (by decide +kernel) (fun hc376982 => ?_) (fun hc376982 => ?_)
            · have r376983 : 2000 ≤ g376977.toInt := gj_leL hc376982 (show Int32.toInt 2000 = 2000 by decide)
              have bg376977' : gB g376977 2000 2000 := ⟨by omega, by omega⟩
              refine G_iload_n 1 dr_cX17_next_171 rfl ?_
              exact G_iretA dr_cX17_next_172 rfl (Nat.le_of_ble_eq_true rfl) (Nat.le_of_ble_eq_true rfl) ⟨g376978, rfl, rfl, (Nat.le_of_ble_eq_true rfl), (Nat.le_of_ble_eq_true rfl), bg376978, x376980, (fun h m hm => x376979 h m (by have := hm.1; omega) hm)⟩
            · have r376984 : g376977.toInt < 2000 := gj_nleL hc376982 (show Int32.toInt 2000 = 2000 by decide)
              have bg376977' : gB g376977 0 1999 := ⟨by omega, by omega⟩
              refine G_aload_n 2 dr_cX17_next_47 rfl ?_
              refine Gp_get 18 hm376379 he376380 dr_cX17_next_48 (gk_X17 D I) (Nat.le_of_ble_eq_true rfl) wr_7_92 rfl ?_
              refine G_iload_n 0 dr_cX17_next_51 rfl ?_
              refine Gp_zald 3 hm376426 he376427 dr_cX17_next_52 rfl (gB_in bg376977' (by decide) (by decide)) (G_nam fun z376985 hz376985 => ?_)
              have bz376985 : gB z376985 0 1 := by rw [hz376985]; exact bf376428 _
              refine G_if_ne 59 dr_cX17_next_53 (by decide +kernel) (fun hc376986 => ?_) (fun hc376986 => ?_)
              · have r376987 : z376985.toInt ≠ 0 := gj_neq hc376986 (show Int32.toInt 0 = 0 by decide)
                have bz376985' : gB z376985 1 1 := ⟨by omega, by omega⟩
                refine G_iload_n 1 dr_cX17_next_59 rfl ?_
                refine G_if_ge 68 dr_cX17_next_60 (by decide +kernel) (fun hc376988 => ?_) (fun hc376988 => ?_)
                · have r376989 : 0 ≤ g376978.toInt := gj_leL hc376988 (show Int32.toInt 0 = 0 by decide)
                  have bg376978' : gB g376978 0 1999 := ⟨by omega, by omega⟩
                  refine G_iload_n 0 dr_cX17_next_68 rfl ?_
                  refine G_bipush 100 dr_cX17_next_69 (by decide +kernel) ?_
                  refine G_icmp_lt 78 dr_cX17_next_71 (by decide +kernel) (fun hc376990 => ?_) (fun hc376990 => ?_)
                  · have r376991 : g376977.toInt < 100 := gj_lt hc376990 (show Int32.toInt 100 = 100 by decide)
                    have bg376977'' : gB g376977 0 99 := ⟨by omega, by omega⟩
                    refine G_iconst 0 dr_cX17_next_78 (by decide +kernel) ?_
                    refine G_istore (L' := [(4, .int 0), (3, .int g376977), (2, .int g376978), (0, .ref q376376), (1, .int p376377)]) dr_cX17_next_79 (Nat.le_of_ble_eq_true rfl) rfl ?_
                    refine G_iload_n 2 dr_cX17_next_81 rfl ?_
                    refine G_bipush 100 dr_cX17_next_82 (by decide +kernel) ?_
                    refine G_icmp_lt 91 dr_cX17_next_84 (by decide +kernel) (fun hc376992 => ?_) (fun hc376992 => ?_)
                    · have r376993 : g376978.toInt < 100 := gj_lt hc376992 (show Int32.toInt 100 = 100 by decide)
                      have bg376978'' : gB g376978 0 99 := ⟨by omega, by omega⟩
                      refine G_iconst 0 dr_cX17_next_91 (by decide +kernel) ?_
                      refine G_istore (L' := [(5, .int 0), (4, .int 0), (3, .int g376977), (2, .int g376978), (0, .ref q376376), (1, .int p376377)]) dr_cX17_next_92 (Nat.le_of_ble_eq_true rfl) rfl ?_
                      refine G_iload 1 dr_cX17_next_94 rfl ?_
                      refine G_if_eq 107 dr_cX17_next_96 (by decide +kernel) (fun _ => ?_) (fun hc => absurd hc (by decide))
                      refine G_aload_n 4 dr_cX17_next_107 rfl ?_
                      refine Gp_get 5 hm376379 he376380 dr_cX17_next_108 (gk_X17 D I) (Nat.le_of_ble_eq_true rfl) wr_7_79 rfl ?_
                      refine G_iload_n 2 dr_cX17_next_111 rfl ?_
                      have hm376994 : (γ 9 5) ∈ P376374 := RS_m hT ht376405 (by decide)
                      obtain ⟨f376996, he376995⟩ := show rk_17 I (F376375 (γ 9 5)) from RS_o hT ht376405
                      refine Gp_iald 0 hm376994 he376995 dr_cX17_next_112 rfl (gB_in bg376977'' (by decide) (by decide)) (G_nam fun z376997 hz376997 => ?_)
                      have bz376997 : gB z376997 (-2147483648) 2147483647 := gB_any z376997
                      refine G_i2l dr_cX17_next_113 (G_namL fun u376998 hu376998 => ?_)
                      refine G_aload_n 4 dr_cX17_next_114 rfl ?_
                      refine Gp_get 16 hm376379 he376380 dr_cX17_next_115 (gk_X17 D I) (Nat.le_of_ble_eq_true rfl) wr_7_90 rfl ?_
                      refine G_iload_n 3 dr_cX17_next_118 rfl ?_
                      have hm376999 : (γ 9 16) ∈ P376374 := RS_m hT ht376410 (by decide)
                      obtain ⟨f377001, he377000⟩ := show rk_19 I (F376375 (γ 9 16)) from RS_o hT ht376410
                      refine Gp_iald 0 hm376999 he377000 dr_cX17_next_119 rfl (gB_in bg376978'' (by decide) (by decide)) (G_nam fun z377002 hz377002 => ?_)
                      have bz377002 : gB z377002 (-2147483648) 2147483647 := gB_any z377002
                      refine G_i2l dr_cX17_next_120 (G_namL fun u377003 hu377003 => ?_)
                      refine G_lmul dr_cX17_next_121 (G_namL fun u377004 hu377004 => ?_)
                      refine G_aload_n 4 dr_cX17_next_122 rfl ?_
                      refine Gp_get 5 hm376379 he376380 dr_cX17_next_123 (gk_X17 D I) (Nat.le_of_ble_eq_true rfl) wr_7_79 rfl ?_
                      refine G_iload_n 3 dr_cX17_next_126 rfl ?_
                      refine Gp_iald 0 hm376994 he376995 dr_cX17_next_127 rfl (gB_in bg376978'' (by decide) (by decide)) (G_nam fun z377005 hz377005 => ?_)
                      have bz377005 : gB z377005 (-2147483648) 2147483647 := gB_any z377005
                      refine G_i2l dr_cX17_next_128 (G_namL fun u377006 hu377006 => ?_)
                      refine G_aload_n 4 dr_cX17_next_129 rfl ?_
                      refine Gp_get 16 hm376379 he376380 dr_cX17_next_130 (gk_X17 D I) (Nat.le_of_ble_eq_true rfl) wr_7_90 rfl ?_
                      refine G_iload_n 2 dr_cX17_next_133 rfl ?_
                      refine Gp_iald 0 hm376999 he377000 dr_cX17_next_134 rfl (gB_in bg376977'' (by decide) (by decide)) (G_nam fun z377007 hz377007 => ?_)
                      have bz377007 : gB z377007 (-2147483648) 2147483647 := gB_any z377007
                      refine G_i2l dr_cX17_next_135 (G_namL fun u377008 hu377008 => ?_)
                      refine G_lmul dr_cX17_next_136 (G_namL fun u377009 hu377009 => ?_)
                      refine G_lcmp dr_cX17_next_137 (G_nam fun z377010 hz377010 => ?_)
                      have bz377010 : gB z377010 (-1) 1 := gB_cmp hz377010
                      refine G_if_ge 145 dr_cX17_next_138 (by decide +kernel) (fun hc377011 => ?_) (fun hc377011 => ?_)
                      · have r377012 : 0 ≤ z377010.toInt := gj_leL hc377011 (show Int32.toInt 0 = 0 by decide)
                        have bz377010' : gB z377010 0 1 := ⟨by omega, by omega⟩
                        refine G_iconst 0 dr_cX17_next_145 (by decide +kernel) ?_
                        refine G_istore (L' := [(6, .int 0), (5, .int 0), (4, .int 0), (3, .int g376977), (2, .int g376978), (0, .ref q376376), (1, .int p376377)]) dr_cX17_next_146 (Nat.le_of_ble_eq_true rfl) rfl ?_
                        refine G_iload 2 dr_cX17_next_148 rfl ?_
                        refine G_if_ne 158 dr_cX17_next_150 (by decide +kernel) (fun hc => absurd hc (by decide)) (fun _ => ?_)
                        refine G_iload 1 dr_cX17_next_153 rfl ?_
                        refine G_if_ne 163 dr_cX17_next_155 (by decide +kernel) (fun hc => absurd hc (by decide)) (fun _ => ?_)
                        refine G_iload 0 dr_cX17_next_158 rfl ?_
                        refine G_if_eq 165 dr_cX17_next_160 (by decide +kernel) (fun _ => ?_) (fun hc => absurd hc (by decide))
                        obtain ⟨z377013, hz377013⟩ : ∃ z : Int32, z = g376977 + Int32.ofInt 1 := ⟨_, rfl⟩
                        have ez377013 : z377013.toInt = g376977.toInt + 1 := gI_inc hz377013 (by decide) bg376977'' (by decide) (by decide)
                        have bz377013 : gB z377013 1 100 := ⟨by omega, by omega⟩
                        refine G_iinc (L' := [(3, .int z377013), (6, .int 0), (5, .int 0), (4, .int 0), (2, .int g376978), (0, .ref q376376), (1, .int p376377)]) z377013 3 dr_cX17_next_165 rfl hz377013.symm (Nat.le_of_ble_eq_true rfl) rfl ?_
                        refine G_goto 40 dr_cX17_next_168 (by decide +kernel) ?_
                        refine G_lv (L' := [(3, .int z377013), (2, .int g376978), (0, .ref q376376), (1, .int p376377)]) [0, 4, 5, 6] rfl ?_
                        exact ih40_376980 z377013 g376978 (gB_w bz377013 (by decide) (by decide)) (gB_w bg376978'' (by decide) (by decide)) (by first | exact fun h => absurd h (by omega) | exact fun h => (by rw [ez377013]; rw [cB_of he376427]; have q := x376979; rw [cB_of he376427] at q; exact nx_0 (q h) hz376985 (by omega) rfl)) x376980 (by omega)
                      · have r377014 : z377010.toInt < 0 := gj_nleL hc377011 (show Int32.toInt 0 = 0 by decide)
                        have bz377010' : gB z377010 (-1) (-1) := ⟨by omega, by omega⟩
                        have lhc377011 := gC_cmpS hz377010 (by omega)
                        refine G_iconst 1 dr_cX17_next_141 (by decide +kernel) ?_
                        refine G_goto 146 dr_cX17_next_142 (by decide +kernel) ?_
                        refine G_istore (L' := [(6, .int 1), (5, .int 0), (4, .int 0), (3, .int g376977), (2, .int g376978), (0, .ref q376376), (1, .int p376377)]) dr_cX17_next_146 (Nat.le_of_ble_eq_true rfl) rfl ?_
                        refine G_iload 2 dr_cX17_next_148 rfl ?_
                        refine G_if_ne 158 dr_cX17_next_150 (by decide +kernel) (fun hc => absurd hc (by decide)) (fun _ => ?_)
                        refine G_iload 1 dr_cX17_next_153 rfl ?_
                        refine G_if_ne 163 dr_cX17_next_155 (by decide +kernel) (fun hc => absurd hc (by decide)) (fun _ => ?_)
                        refine G_iload 0 dr_cX17_next_158 rfl ?_
                        refine G_if_eq 165 dr_cX17_next_160 (by decide +kernel) (fun hc => absurd hc (by decide)) (fun _ => ?_)
                        refine G_iload_n 3 dr_cX17_next_163 rfl ?_
                        refine G_istore_n (L' := [(2, .int g376977), (6, .int 1), (5, .int 0), (4, .int 0), (3, .int g376977), (0, .ref q376376), (1, .int p376377)]) dr_cX17_next_164 (Nat.le_of_ble_eq_true rfl) rfl ?_
                        obtain ⟨z377015, hz377015⟩ : ∃ z : Int32, z = g376977 + Int32.ofInt 1 := ⟨_, rfl⟩
                        have ez377015 : z377015.toInt = g376977.toInt + 1 := gI_inc hz377015 (by decide) bg376977'' (by decide) (by decide)
                        have bz377015 : gB z377015 1 100 := ⟨by omega, by omega⟩
                        refine G_iinc (L' := [(3, .int z377015), (2, .int g376977), (6, .int 1), (5, .int 0), (4, .int 0), (0, .ref q376376), (1, .int p376377)]) z377015 4 dr_cX17_next_165 rfl hz377015.symm (Nat.le_of_ble_eq_true rfl) rfl ?_
                        refine G_goto 40 dr_cX17_next_168 (by decide +kernel) ?_
                        refine G_lv (L' := [(3, .int z377015), (2, .int g376977), (0, .ref q376376), (1, .int p376377)]) [0, 1, 5, 6] rfl ?_
                        exact ih40_376980 z377015 g376977 (gB_w bz377015 (by decide) (by decide)) (gB_w bg376977'' (by decide) (by decide)) (by first | exact fun h => absurd h (by omega) | exact fun h => (by rw [ez377015]; rw [cB_of he376427]; have q := x376979; rw [cB_of he376427] at q; exact nx_0 (q h) hz376985 (by omega) rfl)) (fun _ => by rw [cB_of he376427]; exact sd_of hz376985 (by omega) (by omega) (by omega)) (by omega)
                    · have r377016 : 100 ≤ g376978.toInt := gj_nlt hc376992 (show Int32.toInt 100 = 100 by decide)
                      have bg376978'' : gB g376978 100 1999 := ⟨by omega, by omega⟩
                      refine G_iconst 1 dr_cX17_next_87 (by decide +kernel) ?_
                      refine G_goto 92 dr_cX17_next_88 (by decide +kernel) ?_
                      refine G_istore (L' := [(5, .int 1), (4, .int 0), (3, .int g376977), (2, .int g376978), (0, .ref q376376), (1, .int p376377)]) dr_cX17_next_92 (Nat.le_of_ble_eq_true rfl) rfl ?_
                      refine G_iload 1 dr_cX17_next_94 rfl ?_
                      refine G_if_eq 107 dr_cX17_next_96 (by decide +kernel) (fun _ => ?_) (fun hc => absurd hc (by decide))
                      refine G_aload_n 4 dr_cX17_next_107 rfl ?_
                      refine Gp_get 5 hm376379 he376380 dr_cX17_next_108 (gk_X17 D I) (Nat.le_of_ble_eq_true rfl) wr_7_79 rfl ?_
                      refine G_iload_n 2 dr_cX17_next_111 rfl ?_
                      have hm377017 : (γ 9 5) ∈ P376374 := RS_m hT ht376405 (by decide)
                      obtain ⟨f377019, he377018⟩ := show rk_17 I (F376375 (γ 9 5)) from RS_o hT ht376405
                      refine Gp_iald 0 hm377017 he377018 dr_cX17_next_112 rfl (gB_in bg376977'' (by decide) (by decide)) (G_nam fun z377020 hz377020 => ?_)
                      have bz377020 : gB z377020 (-2147483648) 2147483647 := gB_any z377020
                      refine G_i2l dr_cX17_next_113 (G_namL fun u377021 hu377021 => ?_)
                      refine G_aload_n 4 dr_cX17_next_114 rfl ?_
                      refine Gp_get 16 hm376379 he376380 dr_cX17_next_115 (gk_X17 D I) (Nat.le_of_ble_eq_true rfl) wr_7_90 rfl ?_
                      refine G_iload_n 3 dr_cX17_next_118 rfl ?_
                      have hm377022 : (γ 9 16) ∈ P376374 := RS_m hT ht376410 (by decide)
                      obtain ⟨f377024, he377023⟩ := show rk_19 I (F376375 (γ 9 16)) from RS_o hT ht376410
                      refine Gp_iald 0 hm377022 he377023 dr_cX17_next_119 rfl (gB_in bg376978'' (by decide) (by decide)) (G_nam fun z377025 hz377025 => ?_)
                      have bz377025 : gB z377025 (-2147483648) 2147483647 := gB_any z377025
                      refine G_i2l dr_cX17_next_120 (G_namL fun u377026 hu377026 => ?_)
                      refine G_lmul dr_cX17_next_121 (G_namL fun u377027 hu377027 => ?_)
                      refine G_aload_n 4 dr_cX17_next_122 rfl ?_
                      refine Gp_get 5 hm376379 he376380 dr_cX17_next_123 (gk_X17 D I) (Nat.le_of_ble_eq_true rfl) wr_7_79 rfl ?_
                      refine G_iload_n 3 dr_cX17_next_126 rfl ?_
                      refine Gp_iald 0 hm377017 he377018 dr_cX17_next_127 rfl (gB_in bg376978'' (by decide) (by decide)) (G_nam fun z377028 hz377028 => ?_)
                      have bz377028 : gB z377028 (-2147483648) 2147483647 := gB_any z377028
                      refine G_i2l dr_cX17_next_128 (G_namL fun u377029 hu377029 => ?_)
                      refine G_aload_n 4 dr_cX17_next_129 rfl ?_
                      refine Gp_get 16 hm376379 he376380 dr_cX17_next_130 (gk_X17 D I) (Nat.le_of_ble_eq_true rfl) wr_7_90 rfl ?_
                      refine G_iload_n 2 dr_cX17_next_133 rfl ?_
                      refine Gp_iald 0 hm377022 he377023 dr_cX17_next_134 rfl (gB_in bg376977'' (by decide) (by decide)) (G_nam fun z377030 hz377030 => ?_)
                      have bz377030 : gB z377030 (-2147483648) 2147483647 := gB_any z377030
                      refine G_i2l dr_cX17_next_135 (G_namL fun u377031 hu377031 => ?_)
                      refine G_lmul dr_cX17_next_136 (G_namL fun u377032 hu377032 => ?_)
                      refine G_lcmp dr_cX17_next_137 (G_nam fun z377033 hz377033 => ?_)
                      have bz377033 : gB z377033 (-1) 1 := gB_cmp hz377033
                      refine G_if_ge 145 dr_cX17_next_138 (by decide +kernel) (fun hc377034 => ?_) (fun hc377034 => ?_)
                      · have r377035 : 0 ≤ z377033.toInt := gj_leL hc377034 (show Int32.toInt 0 = 0 by decide)
                        have bz377033' : gB z377033 0 1 := ⟨by omega, by omega⟩
                        refine G_iconst 0 dr_cX17_next_145 (by decide +kernel) ?_
                        refine G_istore (L' := [(6, .int 0), (5, .int 1), (4, .int 0), (3, .int g376977), (2, .int g376978), (0, .ref q376376), (1, .int p376377)]) dr_cX17_next_146 (Nat.le_of_ble_eq_true rfl) rfl ?_
                        refine G_iload 2 dr_cX17_next_148 rfl ?_
                        refine G_if_ne 158 dr_cX17_next_150 (by decide +kernel) (fun hc => absurd hc (by decide)) (fun _ => ?_)
                        refine G_iload 1 dr_cX17_next_153 rfl ?_
                        refine G_if_ne 163 dr_cX17_next_155 (by decide +kernel) (fun _ => ?_) (fun hc => absurd hc (by decide))
                        refine G_iload_n 3 dr_cX17_next_163 rfl ?_
                        refine G_istore_n (L' := [(2, .int g376977), (6, .int 0), (5, .int 1), (4, .int 0), (3, .int g376977), (0, .ref q376376), (1, .int p376377)]) dr_cX17_next_164 (Nat.le_of_ble_eq_true rfl) rfl ?_
                        obtain ⟨z377036, hz377036⟩ : ∃ z : Int32, z = g376977 + Int32.ofInt 1 := ⟨_, rfl⟩
                        have ez377036 : z377036.toInt = g376977.toInt + 1 := gI_inc hz377036 (by decide) bg376977'' (by decide) (by decide)
                        have bz377036 : gB z377036 1 100 := ⟨by omega, by omega⟩
                        refine G_iinc (L' := [(3, .int z377036), (2, .int g376977), (6, .int 0), (5, .int 1), (4, .int 0), (0, .ref q376376), (1, .int p376377)]) z377036 4 dr_cX17_next_165 rfl hz377036.symm (Nat.le_of_ble_eq_true rfl) rfl ?_
                        refine G_goto 40 dr_cX17_next_168 (by decide +kernel) ?_
                        refine G_lv (L' := [(3, .int z377036), (2, .int g376977), (0, .ref q376376), (1, .int p376377)]) [0, 1, 5, 6] rfl ?_
                        exact ih40_376980 z377036 g376977 (gB_w bz377036 (by decide) (by decide)) (gB_w bg376977'' (by decide) (by decide)) (by first | exact fun h => absurd h (by omega) | exact fun h => (by rw [ez377036]; rw [cB_of he376427]; have q := x376979; rw [cB_of he376427] at q; exact nx_0 (q h) hz376985 (by omega) rfl)) (fun _ => by rw [cB_of he376427]; exact sd_of hz376985 (by omega) (by omega) (by omega)) (by omega)
                      · have r377037 : z377033.toInt < 0 := gj_nleL hc377034 (show Int32.toInt 0 = 0 by decide)
                        have bz377033' : gB z377033 (-1) (-1) := ⟨by omega, by omega⟩
                        have lhc377034 := gC_cmpS hz377033 (by omega)
                        refine G_iconst 1 dr_cX17_next_141 (by decide +kernel) ?_
                        refine G_goto 146 dr_cX17_next_142 (by decide +kernel) ?_
                        refine G_istore (L' := [(6, .int 1), (5, .int 1), (4, .int 0), (3, .int g376977), (2, .int g376978), (0, .ref q376376), (1, .int p376377)]) dr_cX17_next_146 (Nat.le_of_ble_eq_true rfl) rfl ?_
                        refine G_iload 2 dr_cX17_next_148 rfl ?_
                        refine G_if_ne 158 dr_cX17_next_150 (by decide +kernel) (fun hc => absurd hc (by decide)) (fun _ => ?_)
                        refine G_iload 1 dr_cX17_next_153 rfl ?_
                        refine G_if_ne 163 dr_cX17_next_155 (by decide +kernel) (fun _ => ?_) (fun hc => absurd hc (by decide))
                        refine G_iload_n 3 dr_cX17_next_163 rfl ?_
                        refine G_istore_n (L' := [(2, .int g376977), (6, .int 1), (5, .int 1), (4, .int 0), (3, .int g376977), (0, .ref q376376), (1, .int p376377)]) dr_cX17_next_164 (Nat.le_of_ble_eq_true rfl) rfl ?_
                        obtain ⟨z377038, hz377038⟩ : ∃ z : Int32, z = g376977 + Int32.ofInt 1 := ⟨_, rfl⟩
                        have ez377038 : z377038.toInt = g376977.toInt + 1 := gI_inc hz377038 (by decide) bg376977'' (by decide) (by decide)
                        have bz377038 : gB z377038 1 100 := ⟨by omega, by omega⟩
                        refine G_iinc (L' := [(3, .int z377038), (2, .int g376977), (6, .int 1), (5, .int 1), (4, .int 0), (0, .ref q376376), (1, .int p376377)]) z377038 4 dr_cX17_next_165 rfl hz377038.symm (Nat.le_of_ble_eq_true rfl) rfl ?_
                        refine G_goto 40 dr_cX17_next_168 (by decide +kernel) ?_
                        refine G_lv (L' := [(3, .int z377038), (2, .int g376977), (0, .ref q376376), (1, .int p376377)]) [0, 1, 5, 6] rfl ?_
                        exact ih40_376980 z377038 g376977 (gB_w bz377038 (by decide) (by decide)) (gB_w bg376977'' (by decide) (by decide)) (by first | exact fun h => absurd h (by omega) | exact fun h => (by rw [ez377038]; rw [cB_of he376427]; have q := x376979; rw [cB_of he376427] at q; exact nx_0 (q h) hz376985 (by omega) rfl)) (fun _ => by rw [cB_of he376427]; exact sd_of hz376985 (by omega) (by omega) (by omega)) (by omega)
                  · have r377039 : 100 ≤ g376977.toInt := gj_nlt hc376990 (show Int32.toInt 100 = 100 by decide)
                    have bg376977'' : gB g376977 100 1999 := ⟨by omega, by omega⟩
                    refine G_iconst 1 dr_cX17_next_74 (by decide +kernel) ?_
                    refine G_goto 79 dr_cX17_next_75 (by decide +kernel) ?_
                    refine G_istore (L' := [(4, .int 1), (3, .int g376977), (2, .int g376978), (0, .ref q376376), (1, .int p376377)]) dr_cX17_next_79 (Nat.le_of_ble_eq_true rfl) rfl ?_
                    refine G_iload_n 2 dr_cX17_next_81 rfl ?_
                    refine G_bipush 100 dr_cX17_next_82 (by decide +kernel) ?_
                    refine G_icmp_lt 91 dr_cX17_next_84 (by decide +kernel) (fun hc377040 => ?_) (fun hc377040 => ?_)
                    · have r377041 : g376978.toInt < 100 := gj_lt hc377040 (show Int32.toInt 100 = 100 by decide)
                      have bg376978'' : gB g376978 0 99 := ⟨by omega, by omega⟩
                      refine G_iconst 0 dr_cX17_next_91 (by decide +kernel) ?_
                      refine G_istore (L' := [(5, .int 0), (4, .int 1), (3, .int g376977), (2, .int g376978), (0, .ref q376376), (1, .int p376377)]) dr_cX17_next_92 (Nat.le_of_ble_eq_true rfl) rfl ?_
                      refine G_iload 1 dr_cX17_next_94 rfl ?_
                      refine G_if_eq 107 dr_cX17_next_96 (by decide +kernel) (fun hc => absurd hc (by decide)) (fun _ => ?_)
                      refine G_iload 0 dr_cX17_next_99 rfl ?_
                      refine G_if_ne 107 dr_cX17_next_101 (by decide +kernel) (fun hc => absurd hc (by decide)) (fun _ => ?_)
                      refine G_goto 165 dr_cX17_next_104 (by decide +kernel) ?_
                      obtain ⟨z377042, hz377042⟩ : ∃ z : Int32, z = g376977 + Int32.ofInt 1 := ⟨_, rfl⟩
                      have ez377042 : z377042.toInt = g376977.toInt + 1 := gI_inc hz377042 (by decide) bg376977'' (by decide) (by decide)
                      have bz377042 : gB z377042 101 2000 := ⟨by omega, by omega⟩
                      refine G_iinc (L' := [(3, .int z377042), (5, .int 0), (4, .int 1), (2, .int g376978), (0, .ref q376376), (1, .int p376377)]) z377042 2 dr_cX17_next_165 rfl hz377042.symm (Nat.le_of_ble_eq_true rfl) rfl ?_
                      refine G_goto 40 dr_cX17_next_168 (by decide +kernel) ?_
                      refine G_lv (L' := [(3, .int z377042), (2, .int g376978), (0, .ref q376376), (1, .int p376377)]) [0, 3, 4, 5] rfl ?_
                      exact ih40_376980 z377042 g376978 (gB_w bz377042 (by decide) (by decide)) (gB_w bg376978'' (by decide) (by decide)) (by first | exact fun h => absurd h (by omega) | exact fun h => (by rw [ez377042]; rw [cB_of he376427]; have q := x376979; rw [cB_of he376427] at q; exact nx_0 (q h) hz376985 (by omega) rfl)) x376980 (by omega)
                    · have r377043 : 100 ≤ g376978.toInt := gj_nlt hc377040 (show Int32.toInt 100 = 100 by decide)
                      have bg376978'' : gB g376978 100 1999 := ⟨by omega, by omega⟩
                      refine G_iconst 1 dr_cX17_next_87 (by decide +kernel) ?_
                      refine G_goto 92 dr_cX17_next_88 (by decide +kernel) ?_
                      refine G_istore (L' := [(5, .int 1), (4, .int 1), (3, .int g376977), (2, .int g376978), (0, .ref q376376), (1, .int p376377)]) dr_cX17_next_92 (Nat.le_of_ble_eq_true rfl) rfl ?_
                      refine G_iload 1 dr_cX17_next_94 rfl ?_
                      refine G_if_eq 107 dr_cX17_next_96 (by decide +kernel) (fun hc => absurd hc (by decide)) (fun _ => ?_)
                      refine G_iload 0 dr_cX17_next_99 rfl ?_
                      refine G_if_ne 107 dr_cX17_next_101 (by decide +kernel) (fun _ => ?_) (fun hc => absurd hc (by decide))
                      refine G_aload_n 4 dr_cX17_next_107 rfl ?_
                      refine Gp_get 5 hm376379 he376380 dr_cX17_next_108 (gk_X17 D I) (Nat.le_of_ble_eq_true rfl) wr_7_79 rfl ?_
                      refine G_iload_n 2 dr_cX17_next_111 rfl ?_
                      have hm377044 : (γ 9 5) ∈ P376374 := RS_m hT ht376405 (by decide)
                      obtain ⟨f377046, he377045⟩ := show rk_17 I (F376375 (γ 9 5)) from RS_o hT ht376405
                      refine Gp_iald 0 hm377044 he377045 dr_cX17_next_112 rfl (gB_in bg376977'' (by decide) (by decide)) (G_nam fun z377047 hz377047 => ?_)
                      have bz377047 : gB z377047 (-2147483648) 2147483647 := gB_any z377047
                      refine G_i2l dr_cX17_next_113 (G_namL fun u377048 hu377048 => ?_)
                      refine G_aload_n 4 dr_cX17_next_114 rfl ?_
                      refine Gp_get 16 hm376379 he376380 dr_cX17_next_115 (gk_X17 D I) (Nat.le_of_ble_eq_true rfl) wr_7_90 rfl ?_
                      refine G_iload_n 3 dr_cX17_next_118 rfl ?_
                      have hm377049 : (γ 9 16) ∈ P376374 := RS_m hT ht376410 (by decide)
                      obtain ⟨f377051, he377050⟩ := show rk_19 I (F376375 (γ 9 16)) from RS_o hT ht376410
                      refine Gp_iald 0 hm377049 he377050 dr_cX17_next_119 rfl (gB_in bg376978'' (by decide) (by decide)) (G_nam fun z377052 hz377052 => ?_)
                      have bz377052 : gB z377052 (-2147483648) 2147483647 := gB_any z377052
                      refine G_i2l dr_cX17_next_120 (G_namL fun u377053 hu377053 => ?_)
                      refine G_lmul dr_cX17_next_121 (G_namL fun u377054 hu377054 => ?_)
                      refine G_aload_n 4 dr_cX17_next_122 rfl ?_
                      refine Gp_get 5 hm376379 he376380 dr_cX17_next_123 (gk_X17 D I) (Nat.le_of_ble_eq_true rfl) wr_7_79 rfl ?_
                      refine G_iload_n 3 dr_cX17_next_126 rfl ?_
                      refine Gp_iald 0 hm377044 he377045 dr_cX17_next_127 rfl (gB_in bg376978'' (by decide) (by decide)) (G_nam fun z377055 hz377055 => ?_)
                      have bz377055 : gB z377055 (-2147483648) 2147483647 := gB_any z377055
                      refine G_i2l dr_cX17_next_128 (G_namL fun u377056 hu377056 => ?_)
                      refine G_aload_n 4 dr_cX17_next_129 rfl ?_
                      refine Gp_get 16 hm376379 he376380 dr_cX17_next_130 (gk_X17 D I) (Nat.le_of_ble_eq_true rfl) wr_7_90 rfl ?_
                      refine G_iload_n 2 dr_cX17_next_133 rfl ?_
                      refine Gp_iald 0 hm377049 he377050 dr_cX17_next_134 rfl (gB_in bg376977'' (by decide) (by decide)) (G_nam fun z377057 hz377057 => ?_)
                      have bz377057 : gB z377057 (-2147483648) 2147483647 := gB_any z377057
                      refine G_i2l dr_cX17_next_135 (G_namL fun u377058 hu377058 => ?_)
                      refine G_lmul dr_cX17_next_136 (G_namL fun u377059 hu377059 => ?_)
                      refine G_lcmp dr_cX17_next_137 (G_nam fun z377060 hz377060 => ?_)
                      have bz377060 : gB z377060 (-1) 1 := gB_cmp hz377060
                      refine G_if_ge 145 dr_cX17_next_138 (by decide +kernel) (fun hc377061 => ?_) (fun hc377061 => ?_)
                      · have r377062 : 0 ≤ z377060.toInt := gj_leL hc377061 (show Int32.toInt 0 = 0 by decide)
                        have bz377060' : gB z377060 0 1 := ⟨by omega, by omega⟩
                        refine G_iconst 0 dr_cX17_next_145 (by decide +kernel) ?_
                        refine G_istore (L' := [(6, .int 0), (5, .int 1), (4, .int 1), (3, .int g376977), (2, .int g376978), (0, .ref q376376), (1, .int p376377)]) dr_cX17_next_146 (Nat.le_of_ble_eq_true rfl) rfl ?_
                        refine G_iload 2 dr_cX17_next_148 rfl ?_
                        refine G_if_ne 158 dr_cX17_next_150 (by decide +kernel) (fun _ => ?_) (fun hc => absurd hc (by decide))
                        refine G_iload 0 dr_cX17_next_158 rfl ?_
                        refine G_if_eq 165 dr_cX17_next_160 (by decide +kernel) (fun _ => ?_) (fun hc => absurd hc (by decide))
                        obtain ⟨z377063, hz377063⟩ : ∃ z : Int32, z = g376977 + Int32.ofInt 1 := ⟨_, rfl⟩
                        have ez377063 : z377063.toInt = g376977.toInt + 1 := gI_inc hz377063 (by decide) bg376977'' (by decide) (by decide)
                        have bz377063 : gB z377063 101 2000 := ⟨by omega, by omega⟩
                        refine G_iinc (L' := [(3, .int z377063), (6, .int 0), (5, .int 1), (4, .int 1), (2, .int g376978), (0, .ref q376376), (1, .int p376377)]) z377063 3 dr_cX17_next_165 rfl hz377063.symm (Nat.le_of_ble_eq_true rfl) rfl ?_
                        refine G_goto 40 dr_cX17_next_168 (by decide +kernel) ?_
                        refine G_lv (L' := [(3, .int z377063), (2, .int g376978), (0, .ref q376376), (1, .int p376377)]) [0, 4, 5, 6] rfl ?_
                        exact ih40_376980 z377063 g376978 (gB_w bz377063 (by decide) (by decide)) (gB_w bg376978'' (by decide) (by decide)) (by first | exact fun h => absurd h (by omega) | exact fun h => (by rw [ez377063]; rw [cB_of he376427]; have q := x376979; rw [cB_of he376427] at q; exact nx_0 (q h) hz376985 (by omega) rfl)) x376980 (by omega)
                      · have r377064 : z377060.toInt < 0 := gj_nleL hc377061 (show Int32.toInt 0 = 0 by decide)
                        have bz377060' : gB z377060 (-1) (-1) := ⟨by omega, by omega⟩
                        have lhc377061 := gC_cmpS hz377060 (by omega)
                        refine G_iconst 1 dr_cX17_next_141 (by decide +kernel) ?_
                        refine G_goto 146 dr_cX17_next_142 (by decide +kernel) ?_
                        refine G_istore (L' := [(6, .int 1), (5, .int 1), (4, .int 1), (3, .int g376977), (2, .int g376978), (0, .ref q376376), (1, .int p376377)]) dr_cX17_next_146 (Nat.le_of_ble_eq_true rfl) rfl ?_
                        refine G_iload 2 dr_cX17_next_148 rfl ?_
                        refine G_if_ne 158 dr_cX17_next_150 (by decide +kernel) (fun _ => ?_) (fun hc => absurd hc (by decide))
                        refine G_iload 0 dr_cX17_next_158 rfl ?_
                        refine G_if_eq 165 dr_cX17_next_160 (by decide +kernel) (fun hc => absurd hc (by decide)) (fun _ => ?_)
                        refine G_iload_n 3 dr_cX17_next_163 rfl ?_
                        refine G_istore_n (L' := [(2, .int g376977), (6, .int 1), (5, .int 1), (4, .int 1), (3, .int g376977), (0, .ref q376376), (1, .int p376377)]) dr_cX17_next_164 (Nat.le_of_ble_eq_true rfl) rfl ?_
                        obtain ⟨z377065, hz377065⟩ : ∃ z : Int32, z = g376977 + Int32.ofInt 1 := ⟨_, rfl⟩
                        have ez377065 : z377065.toInt = g376977.toInt + 1 := gI_inc hz377065 (by decide) bg376977'' (by decide) (by decide)
                        have bz377065 : gB z377065 101 2000 := ⟨by omega, by omega⟩
                        refine G_iinc (L' := [(3, .int z377065), (2, .int g376977), (6, .int 1), (5, .int 1), (4, .int 1), (0, .ref q376376), (1, .int p376377)]) z377065 4 dr_cX17_next_165 rfl hz377065.symm (Nat.le_of_ble_eq_true rfl) rfl ?_
                        refine G_goto 40 dr_cX17_next_168 (by decide +kernel) ?_
                        refine G_lv (L' := [(3, .int z377065), (2, .int g376977), (0, .ref q376376), (1, .int p376377)]) [0, 1, 5, 6] rfl ?_
                        exact ih40_376980 z377065 g376977 (gB_w bz377065 (by decide) (by decide)) (gB_w bg376977'' (by decide) (by decide)) (by first | exact fun h => absurd h (by omega) | exact fun h => (by rw [ez377065]; rw [cB_of he376427]; have q := x376979; rw [cB_of he376427] at q; exact nx_0 (q h) hz376985 (by omega) rfl)) (fun _ => by rw [cB_of he376427]; exact sd_of hz376985 (by omega) (by omega) (by omega)) (by omega)
                · have r377066 : g376978.toInt < 0 := gj_nleL hc376988 (show Int32.toInt 0 = 0 by decide)
                  have bg376978' : gB g376978 (-1) (-1) := ⟨by omega, by omega⟩
                  refine G_iload_n 0 dr_cX17_next_63 rfl ?_
                  refine G_istore_n (L' := [(2, .int g376977), (3, .int g376977), (0, .ref q376376), (1, .int p376377)]) dr_cX17_next_64 (Nat.le_of_ble_eq_true rfl) rfl ?_
                  refine G_goto 165 dr_cX17_next_65 (by decide +kernel) ?_
                  obtain ⟨z377067, hz377067⟩ : ∃ z : Int32, z = g376977 + Int32.ofInt 1 := ⟨_, rfl⟩
                  have ez377067 : z377067.toInt = g376977.toInt + 1 := gI_inc hz377067 (by decide) bg376977' (by decide) (by decide)
                  have bz377067 : gB z377067 1 2000 := ⟨by omega, by omega⟩
                  refine G_iinc (L' := [(3, .int z377067), (2, .int g376977), (0, .ref q376376), (1, .int p376377)]) z377067 1 dr_cX17_next_165 rfl hz377067.symm (Nat.le_of_ble_eq_true rfl) rfl ?_
                  refine G_goto 40 dr_cX17_next_168 (by decide +kernel) ?_
                  exact ih40_376980 z377067 g376977 (gB_w bz377067 (by decide) (by decide)) (gB_w bg376977' (by decide) (by decide)) (by first | exact fun h => absurd h (by omega) | exact fun h => (by rw [ez377067]; rw [cB_of he376427]; have q := x376979; rw [cB_of he376427] at q; exact nx_0 (q h) hz376985 (by omega) rfl)) (fun _ => by rw [cB_of he376427]; exact sd_of hz376985 (by omega) (by omega) (by omega)) (by omega)
              · have r377068 : z376985.toInt = 0 := gj_eq hc376986 (show Int32.toInt 0 = 0 by decide)
                have bz376985' : gB z376985 0 0 := ⟨by omega, by omega⟩
                refine G_goto 165 dr_cX17_next_56 (by decide +kernel) ?_
                obtain ⟨z377069, hz377069⟩ : ∃ z : Int32, z = g376977 + Int32.ofInt 1 := ⟨_, rfl⟩
                have ez377069 : z377069.toInt = g376977.toInt + 1 := gI_inc hz377069 (by decide) bg376977' (by decide) (by decide)
                have bz377069 : gB z377069 1 2000 := ⟨by omega, by omega⟩
                refine G_iinc (L' := [(3, .int z377069), (2, .int g376978), (0, .ref q376376), (1, .int p376377)]) z377069 0 dr_cX17_next_165 rfl hz377069.symm (Nat.le_of_ble_eq_true rfl) rfl ?_
                refine G_goto 40 dr_cX17_next_168 (by decide +kernel) ?_
                exact ih40_376980 z377069 g376978 (gB_w bz377069 (by decide) (by decide)) bg376978 (by first | exact fun h => absurd h (by omega) | exact fun h => (by rw [ez377069]; rw [cB_of he376427]; have q := x376979; rw [cB_of he376427] at q; exact nx_0 (q h) hz376985 (by omega) rfl)) x376980 (by omega)
        exact hlp40_376980 (((2001 : Int) - 0).toNat + 1) 0 (-1) (gB_w (gBl (show Int32.toInt 0 = 0 by decide)) (by decide) (by decide)) (gB_w (gBl (show Int32.toInt (-1) = (-1) by decide)) (by decide) (by decide)) (fun _ m hm => absurd hm (by have qa : Int32.toInt 0 = 0 := (by decide); omega)) (fun h => absurd h (by decide)) (Nat.lt_succ_self _)
      · have r377070 : g376883.toInt < 2000 := gj_nleL hc376885 (show Int32.toInt 2000 = 2000 by decide)
        have bg376883' : gB g376883 0 1999 := ⟨by omega, by omega⟩
        refine G_aload_n 1 dr_cX17_next_9 rfl ?_
        refine Gp_get 18 hm376379 he376380 dr_cX17_next_10 (gk_X17 D I) (Nat.le_of_ble_eq_true rfl) wr_7_92 rfl ?_
        refine G_iload_n 0 dr_cX17_next_13 rfl ?_
        refine Gp_zald 3 hm376426 he376427 dr_cX17_next_14 rfl (gB_in bg376883' (by decide) (by decide)) (G_nam fun z377071 hz377071 => ?_)
        have bz377071 : gB z377071 0 1 := by rw [hz377071]; exact bf376428 _
        refine G_if_eq 30 dr_cX17_next_15 (by decide +kernel) (fun hc377072 => ?_) (fun hc377072 => ?_)
        · have r377073 : z377071.toInt = 0 := gj_eq hc377072 (show Int32.toInt 0 = 0 by decide)
          have bz377071' : gB z377071 0 0 := ⟨by omega, by omega⟩
          obtain ⟨z377074, hz377074⟩ : ∃ z : Int32, z = g376883 + Int32.ofInt 1 := ⟨_, rfl⟩
          have ez377074 : z377074.toInt = g376883.toInt + 1 := gI_inc hz377074 (by decide) bg376883' (by decide) (by decide)
          have bz377074 : gB z377074 1 2000 := ⟨by omega, by omega⟩
          refine G_iinc (L' := [(2, .int z377074), (0, .ref q376376), (1, .int p376377)]) z377074 0 dr_cX17_next_30 rfl hz377074.symm (Nat.le_of_ble_eq_true rfl) rfl ?_
          refine G_goto 2 dr_cX17_next_33 (by decide +kernel) ?_
          exact ih2_376883 z377074 (gB_w bz377074 (by decide) (by decide)) (by omega)
        · have r377075 : z377071.toInt ≠ 0 := gj_neq hc377072 (show Int32.toInt 0 = 0 by decide)
          have bz377071' : gB z377071 1 1 := ⟨by omega, by omega⟩
          refine G_aload_n 1 dr_cX17_next_18 rfl ?_
          refine Gp_get 16 hm376379 he376380 dr_cX17_next_19 (gk_X17 D I) (Nat.le_of_ble_eq_true rfl) wr_7_90 rfl ?_
          refine G_iload_n 0 dr_cX17_next_22 rfl ?_
          have hm377076 : (γ 9 16) ∈ P376374 := RS_m hT ht376410 (by decide)
          obtain ⟨f377078, he377077⟩ := show rk_19 I (F376375 (γ 9 16)) from RS_o hT ht376410
          refine Gp_iald 0 hm377076 he377077 dr_cX17_next_23 rfl (gB_in bg376883' (by decide) (by decide)) (G_nam fun z377079 hz377079 => ?_)
          have bz377079 : gB z377079 (-2147483648) 2147483647 := gB_any z377079
          refine G_iload_n 2 dr_cX17_next_24 rfl ?_
          refine G_icmp_ge 30 dr_cX17_next_25 (by decide +kernel) (fun hc377080 => ?_) (fun hc377080 => ?_)
          · have r377081 : p376377.toInt ≤ z377079.toInt := gC_le hc377080
            obtain ⟨z377082, hz377082⟩ : ∃ z : Int32, z = g376883 + Int32.ofInt 1 := ⟨_, rfl⟩
            have ez377082 : z377082.toInt = g376883.toInt + 1 := gI_inc hz377082 (by decide) bg376883' (by decide) (by decide)
            have bz377082 : gB z377082 1 2000 := ⟨by omega, by omega⟩
            refine G_iinc (L' := [(2, .int z377082), (0, .ref q376376), (1, .int p376377)]) z377082 0 dr_cX17_next_30 rfl hz377082.symm (Nat.le_of_ble_eq_true rfl) rfl ?_
            refine G_goto 2 dr_cX17_next_33 (by decide +kernel) ?_
            exact ih2_376883 z377082 (gB_w bz377082 (by decide) (by decide)) (by omega)
          · have r377083 : z377079.toInt < p376377.toInt := gC_nle hc377080
            have bz377079' : gB z377079 (-2147483648) 2147483646 := ⟨by omega, by omega⟩
            have bp376377' : gB p376377 (-2147483647) 2147483647 := ⟨by omega, by omega⟩
            refine G_iload_n 0 dr_cX17_next_28 rfl ?_
            exact G_iretA dr_cX17_next_29 rfl (Nat.le_of_ble_eq_true rfl) (Nat.le_of_ble_eq_true rfl) ⟨g376883, rfl, rfl, (Nat.le_of_ble_eq_true rfl), (Nat.le_of_ble_eq_true rfl), (gB_w bg376883' (by decide) (by decide)), (fun _ => by rw [cB_of he376427]; exact sd_of hz377071 (by omega) (by omega) (by omega)), (fun h => absurd h (by omega))⟩
  exact hlp2_376883 (((2001 : Int) - 0).toNat + 1) 0 (gB_w (gBl (show Int32.toInt 0 = 0 by decide)) (by decide) (by decide)) (Nat.lt_succ_self _)
abbrev ky_375312_SpillForgeModel_colours : gKey := (cX17_colours, 8, "SpillForgeModel", (some FieldType.int), [], "colours", fun _ _ => True)
def pt_375312_SpillForgeModel_colours (D : va_G) (I : FieldType → ClassId) (γ el : Nat → Nat → Nat) (P375308 : List Nat) (F375309 : Nat → va_E) (q375310 : Nat) (p375311 : Int32) : Option Value → va_W → Nat → Nat → Prop := fun r w dc ds => ∃ (F389235 : Nat → va_E) (o389234 : Int32), r = some (.int o389234) ∧ w = va_pl P375308 F389235 ∧ RS D I P375308 F389235 γ el ∧ rStr γ [] F375309 F389235 ∧ dc ≤ 0 ∧ ds ≤ 0 ∧ (o389234.toInt = 0 → ∀ m : Nat, rSd (cB (F389235 (γ 9 3))) m → 0 ≤ (cB (F389235 (γ 9 17)) m).toInt) ∧ (F389235 q375310 = F375309 q375310) ∧ (F389235 (γ 9 3) = F375309 (γ 9 3))
set_option maxRecDepth 100000 in
set_option maxHeartbeats 4000000 in
theorem ct_375312_SpillForgeModel_colours (l : Launch) (hl0 : l.stackTraces = false) (D : va_G) (I : FieldType → ClassId) (γ el : Nat → Nat → Nat) (P375308 : List Nat) (F375309 : Nat → va_E) (q375310 : Nat) (p375311 : Int32) (hT : RS D I P375308 F375309 γ el) (htq375310 : rKd γ q375310 10) (bp375311 : gB p375311 1 32) : CtA (gV D I) l yX17_colours cX17_colours 8 (some FieldType.int) 2 43 0 0 [.ref q375310, .int p375311] (va_pl P375308 F375309) (pt_375312_SpillForgeModel_colours D I γ el P375308 F375309 q375310 p375311) gNA := by
  refine CtA_of hl0 (by decide) (Nat.le_of_ble_eq_true rfl) ?_
  have hm375313 : q375310 ∈ P375308 := RS_m hT htq375310 (by decide)
  obtain ⟨q375315, q375316, p375317, p375318, p375319, p375320, p375321, p375322, p375323, p375324, p375325, p375326, p375327, p375328, p375329, p375330, p375331, he375314, hB375358, ht375332, ht375333, ht375334, ht375335, ht375336, ht375337, ht375338, ht375339, ht375340, ht375341, ht375342, ht375343, ht375344, ht375345, ht375346, ht375347, ht375348, ht375349, ht375350, ht375351, ht375352, ht375353, ht375354, ht375355, hB375359⟩ := show rk_10 γ (F375309 q375310) from RS_o hT htq375310
  have hm375360 : (γ 9 3) ∈ P375308 := RS_m hT ht375337 (by decide)
  obtain ⟨f375362, he375361, bf375362⟩ := show rk_14 I (F375309 (γ 9 3)) from RS_o hT ht375337
  have hm375363 : (γ 9 18) ∈ P375308 := RS_m hT ht375346 (by decide)
  obtain ⟨f375365, he375364, bf375365⟩ := show rk_15 I (F375309 (γ 9 18)) from RS_o hT ht375346
  have hm375366 : (γ 9 15) ∈ P375308 := RS_m hT ht375343 (by decide)
  obtain ⟨f375368, he375367, bf375368⟩ := show rk_18 I (F375309 (γ 9 15)) from RS_o hT ht375343
  have hm375369 : (γ 9 17) ∈ P375308 := RS_m hT ht375345 (by decide)
  obtain ⟨f375371, he375370, bf375371⟩ := show rk_20 I (F375309 (γ 9 17)) from RS_o hT ht375345
  refine G_iconst 0 dr_cX17_colours_0 (by decide +kernel) ?_
  refine G_istore_n (L' := [(2, .int 0), (0, .ref q375310), (1, .int p375311)]) dr_cX17_colours_1 (Nat.le_of_ble_eq_true rfl) rfl ?_
  have hlp2_387283 : ∀ (n2_387283 : Nat) (F387278 : Nat → va_E) (g387277 : Int32), gB g387277 0 2000 → RS D I P375308 F387278 γ el → rStr γ [] F375309 F387278 → (∀ m : Nat, (m : Int) < g387277.toInt → rSd (cB (F387278 (γ 9 3))) m → rSd (cB (F387278 (γ 9 18))) m) → (F387278 q375310 = F375309 q375310) → (F387278 (γ 9 3) = F375309 (γ 9 3)) → ((2001 : Int) - g387277.toInt).toNat < n2_387283 → G (gV D I) l (gRm 2 43 0 0) (gMA (gV D I) (pt_375312_SpillForgeModel_colours D I γ el P375308 F375309 q375310 p375311) gNA 0 0) ky_375312_SpillForgeModel_colours 2 [(2, .int g387277), (0, .ref q375310), (1, .int p375311)] [] (va_pl P375308 F387278) 0 0 := by
    intro n2_387283
    induction n2_387283 with
    | zero => intro F387278 g387277 bg387277 hT387279 hs387280 x387281 x387282 x387283 hm2_387283; exact absurd hm2_387283 (Nat.not_lt_zero _)
    | succ n2_387283 ih2_387283 =>
      intro F387278 g387277 bg387277 hT387279 hs387280 x387281 x387282 x387283 hm2_387283
      have hs387285 : rStr γ [] F375309 F387278 := fun b h0 hb hw => (hs387280 b h0 hb hw).trans ((rStr_rf (γ := γ) (W := []) (F := F375309)) b h0 hb hw).symm
      have hs387286 : rStr γ [] F375309 F387278 := rStr_tr (rStr_rf (γ := γ) (W := []) (F := F375309)) hs387285
      have hm387287 : q375310 ∈ P375308 := RS_m hT387279 htq375310 (by decide)
      obtain ⟨q387289, q387290, p387291, p387292, p387293, p387294, p387295, p387296, p387297, p387298, p387299, p387300, p387301, p387302, p387303, p387304, p387305, he387288, hB387332, ht387306, ht387307, ht387308, ht387309, ht387310, ht387311, ht387312, ht387313, ht387314, ht387315, ht387316, ht387317, ht387318, ht387319, ht387320, ht387321, ht387322, ht387323, ht387324, ht387325, ht387326, ht387327, ht387328, ht387329, hB387333⟩ := show rk_10 γ (F387278 q375310) from RS_o hT387279 htq375310
      have hm387334 : (γ 9 3) ∈ P375308 := RS_m hT387279 ht387311 (by decide)
      obtain ⟨f387336, he387335, bf387336⟩ := show rk_14 I (F387278 (γ 9 3)) from RS_o hT387279 ht387311
      have hm387337 : (γ 9 18) ∈ P375308 := RS_m hT387279 ht387320 (by decide)
      obtain ⟨f387339, he387338, bf387339⟩ := show rk_15 I (F387278 (γ 9 18)) from RS_o hT387279 ht387320
      have hm387340 : (γ 9 15) ∈ P375308 := RS_m hT387279 ht387317 (by decide)
      obtain ⟨f387342, he387341, bf387342⟩ := show rk_18 I (F387278 (γ 9 15)) from RS_o hT387279 ht387317
      have hm387343 : (γ 9 17) ∈ P375308 := RS_m hT387279 ht387319 (by decide)
      obtain ⟨f387345, he387344, bf387345⟩ := show rk_20 I (F387278 (γ 9 17)) from RS_o hT387279 ht387319
      have cq387346 := x387281
      rw [cB_of he387335, cB_of he387338] at cq387346
      refine G_iload_n 0 dr_cX17_colours_2 rfl ?_
      refine G_sipush 2000 dr_cX17_colours_3 (by decide +kernel) ?_
      refine G_icmp_ge 62 dr_cX17_colours_6 (by decide +kernel) (fun hc387347 => ?_) (fun hc387347 => ?_)
      · have r387348 : 2000 ≤ g387277.toInt := gj_leL hc387347 (show Int32.toInt 2000 = 2000 by decide)
        have bg387277' : gB g387277 2000 2000 := ⟨by omega, by omega⟩
        refine G_iconst 0 dr_cX17_colours_62 (by decide +kernel) ?_
        refine G_istore_n (L' := [(2, .int 0), (0, .ref q375310), (1, .int p375311)]) dr_cX17_colours_63 (Nat.le_of_ble_eq_true rfl) rfl ?_
        refine G_aload_n 1 dr_cX17_colours_64 rfl ?_
        refine G_iload_n 2 dr_cX17_colours_65 rfl ?_
        refine Gw_callV (As := [.int p375311]) (gV_ok D I) (ct_376378_SpillForgeModel_next l hl0 D I γ el P375308 F387278 q375310 p375311 hT387279 htq375310) dr_cX17_colours_66 ⟨wr_11_51, wr_1_14, wr_11_54, by decide, rfl, (Nat.le_of_ble_eq_true rfl), (Nat.le_of_ble_eq_true rfl)⟩ wr_11_53 wr_p_107 hm387287 he387288 rfl (show 0 + 0 ≤ 0 by first | omega | decide) (show 0 + 0 ≤ 0 by first | omega | decide) (Nat.le_of_ble_eq_true rfl) (fun r387352 w387353 dc387349 ds387350 hp387351 => ?_) (fun _ _ _ _ _ z => z.elim)
        obtain ⟨o387354, rfl, rfl, hdc, hds, bo387354, x387355, x387356⟩ := hp387351
        change G _ _ _ _ _ _ _ (.int o387354 :: _) _ _ _
        refine G_widen (cs' := 0) (sl' := 0) (by omega) (by omega) ?_
        refine G_istore_n (L' := [(3, .int o387354), (2, .int 0), (0, .ref q375310), (1, .int p375311)]) dr_cX17_colours_69 (Nat.le_of_ble_eq_true rfl) rfl ?_
        have hlp70_388246 : ∀ (n70_388246 : Nat) (F388238 : Nat → va_E) (g388236 : Int32) (g388237 : Int32), gB g388236 (-1) 1999 → gB g388237 0 2000 → RS D I P375308 F388238 γ el → rStr γ [] F375309 F388238 → (∀ m : Nat, rSd (cB (F388238 (γ 9 3))) m → rSd (cB (F388238 (γ 9 18))) m ∨ ∃ i : Nat, (i : Int) < g388237.toInt ∧ (cB (F388238 (γ 9 15)) i).toInt = m) → (rcn (cB (F388238 (γ 9 18))) 2000 + (g388237.toInt : Int).toNat ≤ 2000) → (0 ≤ g388236.toInt → rSd (cB (F388238 (γ 9 18))) (g388236.toInt : Int).toNat) → (g388236.toInt < 0 → ∀ m : Nat, ¬ rSd (cB (F388238 (γ 9 18))) m) → (F388238 q375310 = F375309 q375310) → (F388238 (γ 9 3) = F375309 (γ 9 3)) → (rcn (cB (F388238 (γ 9 18))) 2000) < n70_388246 → G (gV D I) l (gRm 2 43 0 0) (gMA (gV D I) (pt_375312_SpillForgeModel_colours D I γ el P375308 F375309 q375310 p375311) gNA 0 0) ky_375312_SpillForgeModel_colours 70 [(3, .int g388236), (2, .int g388237), (0, .ref q375310), (1, .int p375311)] [] (va_pl P375308 F388238) 0 0 := by
          intro n70_388246
          induction n70_388246 with
          | zero => intro F388238 g388236 g388237 bg388236 bg388237 hT388239 hs388240 x388241 x388242 x388243 x388244 x388245 x388246 hm70_388246; exact absurd hm70_388246 (Nat.not_lt_zero _)
          | succ n70_388246 ih70_388246 =>
            intro F388238 g388236 g388237 bg388236 bg388237 hT388239 hs388240 x388241 x388242 x388243 x388244 x388245 x388246 hm70_388246
            have hs388248 : rStr γ [] F387278 F388238 := fun b h0 hb hw => (hs388240 b h0 hb hw).trans (hs387280 b h0 hb hw).symm
            have hs388249 : rStr γ [] F375309 F388238 := rStr_tr hs387280 hs388248
            have hm388250 : q375310 ∈ P375308 := RS_m hT388239 htq375310 (by decide)
            obtain ⟨q388252, q388253, p388254, p388255, p388256, p388257, p388258, p388259, p388260, p388261, p388262, p388263, p388264, p388265, p388266, p388267, p388268, he388251, hB388295, ht388269, ht388270, ht388271, ht388272, ht388273, ht388274, ht388275, ht388276, ht388277, ht388278, ht388279, ht388280, ht388281, ht388282, ht388283, ht388284, ht388285, ht388286, ht388287, ht388288, ht388289, ht388290, ht388291, ht388292, hB388296⟩ := show rk_10 γ (F388238 q375310) from RS_o hT388239 htq375310
            have hm388297 : (γ 9 3) ∈ P375308 := RS_m hT388239 ht388274 (by decide)
            obtain ⟨f388299, he388298, bf388299⟩ := show rk_14 I (F388238 (γ 9 3)) from RS_o hT388239 ht388274
            have hm388300 : (γ 9 18) ∈ P375308 := RS_m hT388239 ht388283 (by decide)
            obtain ⟨f388302, he388301, bf388302⟩ := show rk_15 I (F388238 (γ 9 18)) from RS_o hT388239 ht388283
            have hm388303 : (γ 9 15) ∈ P375308 := RS_m hT388239 ht388280 (by decide)
            obtain ⟨f388305, he388304, bf388305⟩ := show rk_18 I (F388238 (γ 9 15)) from RS_o hT388239 ht388280
            have hm388306 : (γ 9 17) ∈ P375308 := RS_m hT388239 ht388282 (by decide)
            obtain ⟨f388308, he388307, bf388308⟩ := show rk_20 I (F388238 (γ 9 17)) from RS_o hT388239 ht388282
            have cq388309 := x388241
            rw [cB_of he388298, cB_of he388301, cB_of he388304] at cq388309
            have cq388310 := x388242
            rw [cB_of he388301] at cq388310
            have cq388311 := x388243
            rw [cB_of he388301] at cq388311
            have cq388312 := x388244
            rw [cB_of he388301] at cq388312
            refine G_iload_n 0 dr_cX17_colours_70 rfl ?_
            refine G_if_lt 142 dr_cX17_colours_71 (by decide +kernel) (fun hc388313 => ?_) (fun hc388313 => ?_)
            · have r388314 : g388236.toInt < 0 := gj_lt hc388313 (show Int32.toInt 0 = 0 by decide)
              have bg388236' : gB g388236 (-1) (-1) := ⟨by omega, by omega⟩
              refine G_iconst 0 dr_cX17_colours_142 (by decide +kernel) ?_
              refine G_istore_n (L' := [(3, .int 0), (2, .int g388237), (0, .ref q375310), (1, .int p375311)]) dr_cX17_colours_143 (Nat.le_of_ble_eq_true rfl) rfl ?_
              have hlp144_388581 : ∀ (n144_388581 : Nat) (F388575 : Nat → va_E) (g388573 : Int32) (g388574 : Int32), gB g388574 0 2000 → RS D I P375308 F388575 γ el → rStr γ [] F375309 F388575 → (g388573.toInt = 0 → ∀ m : Nat, rSd (cB (F388575 (γ 9 3))) m → (∃ i : Nat, (i : Int) < g388574.toInt ∧ (cB (F388575 (γ 9 15)) i).toInt = m) ∨ 0 ≤ (cB (F388575 (γ 9 17)) m).toInt) → (g388573.toInt + g388574.toInt ≤ 2000) → (F388575 q375310 = F375309 q375310) → (F388575 (γ 9 3) = F375309 (γ 9 3)) → ((g388574.toInt : Int) - (-1)).toNat < n144_388581 → G (gV D I) l (gRm 2 43 0 0) (gMA (gV D I) (pt_375312_SpillForgeModel_colours D I γ el P375308 F375309 q375310 p375311) gNA 0 0) ky_375312_SpillForgeModel_colours 144 [(3, .int g388573), (2, .int g388574), (0, .ref q375310), (1, .int p375311)] [] (va_pl P375308 F388575) 0 0 := by
                intro n144_388581
                induction n144_388581 with
                | zero => intro F388575 g388573 g388574 bg388574 hT388576 hs388577 x388578 x388579 x388580 x388581 hm144_388581; exact absurd hm144_388581 (Nat.not_lt_zero _)
                | succ n144_388581 ih144_388581 =>
                  intro F388575 g388573 g388574 bg388574 hT388576 hs388577 x388578 x388579 x388580 x388581 hm144_388581
                  have bg388573 := gB_any g388573
                  have hs388583 : rStr γ [] F388238 F388575 := fun b h0 hb hw => (hs388577 b h0 hb hw).trans (hs388240 b h0 hb hw).symm
                  have hs388584 : rStr γ [] F375309 F388575 := rStr_tr hs388240 hs388583
                  have hm388585 : q375310 ∈ P375308 := RS_m hT388576 htq375310 (by decide)
                  obtain ⟨q388587, q388588, p388589, p388590, p388591, p388592, p388593, p388594, p388595, p388596, p388597, p388598, p388599, p388600, p388601, p388602, p388603, he388586, hB388630, ht388604, ht388605, ht388606, ht388607, ht388608, ht388609, ht388610, ht388611, ht388612, ht388613, ht388614, ht388615, ht388616, ht388617, ht388618, ht388619, ht388620, ht388621, ht388622, ht388623, ht388624, ht388625, ht388626, ht388627, hB388631⟩ := show rk_10 γ (F388575 q375310) from RS_o hT388576 htq375310
                  have hm388632 : (γ 9 3) ∈ P375308 := RS_m hT388576 ht388609 (by decide)
                  obtain ⟨f388634, he388633, bf388634⟩ := show rk_14 I (F388575 (γ 9 3)) from RS_o hT388576 ht388609
                  have hm388635 : (γ 9 18) ∈ P375308 := RS_m hT388576 ht388618 (by decide)
                  obtain ⟨f388637, he388636, bf388637⟩ := show rk_15 I (F388575 (γ 9 18)) from RS_o hT388576 ht388618
                  have hm388638 : (γ 9 15) ∈ P375308 := RS_m hT388576 ht388615 (by decide)
                  obtain ⟨f388640, he388639, bf388640⟩ := show rk_18 I (F388575 (γ 9 15)) from RS_o hT388576 ht388615
                  have hm388641 : (γ 9 17) ∈ P375308 := RS_m hT388576 ht388617 (by decide)
                  obtain ⟨f388643, he388642, bf388643⟩ := show rk_20 I (F388575 (γ 9 17)) from RS_o hT388576 ht388617
                  have cq388644 := x388578
                  rw [cB_of he388633, cB_of he388639, cB_of he388642] at cq388644
                  refine G_iload_n 1 dr_cX17_colours_144 rfl ?_
                  refine G_if_le 253 dr_cX17_colours_145 (by decide +kernel) (fun hc388645 => ?_) (fun hc388645 => ?_)
                  · have r388646 : g388574.toInt ≤ 0 := gj_le hc388645 (show Int32.toInt 0 = 0 by decide)
                    have bg388574' : gB g388574 0 0 := ⟨by omega, by omega⟩
                    refine G_iload_n 0 dr_cX17_colours_253 rfl ?_
                    exact G_iretA dr_cX17_colours_254 rfl (Nat.le_of_ble_eq_true rfl) (Nat.le_of_ble_eq_true rfl) ⟨F388575, g388573, rfl, rfl, hT388576, hs388577, (Nat.le_of_ble_eq_true rfl), (Nat.le_of_ble_eq_true rfl), (fun h0 m s => by rw [cB_of he388642]; rw [cB_of he388633] at s; exact (cq388644 h0 m s).resolve_left (fun ⟨i, hi, _⟩ => absurd hi (by omega))), x388580, x388581⟩
                  · have r388647 : 0 < g388574.toInt := gj_nle hc388645 (show Int32.toInt 0 = 0 by decide)
                    have bg388574' : gB g388574 1 2000 := ⟨by omega, by omega⟩
                    obtain ⟨z388648, hz388648⟩ : ∃ z : Int32, z = g388574 + Int32.ofInt (-1) := ⟨_, rfl⟩
                    have ez388648 : z388648.toInt = g388574.toInt + (-1) := gI_inc hz388648 (by decide) bg388574' (by decide) (by decide)
                    have bz388648 : gB z388648 0 1999 := ⟨by omega, by omega⟩
                    refine G_iinc (L' := [(2, .int z388648), (3, .int g388573), (0, .ref q375310), (1, .int p375311)]) z388648 1 dr_cX17_colours_148 rfl hz388648.symm (Nat.le_of_ble_eq_true rfl) rfl ?_
                    refine G_aload_n 2 dr_cX17_colours_151 rfl ?_
                    refine Gp_get 15 hm388585 he388586 dr_cX17_colours_152 (gk_X17 D I) (Nat.le_of_ble_eq_true rfl) wr_7_89 rfl ?_
                    refine G_iload_n 0 dr_cX17_colours_155 rfl ?_
                    refine Gp_iald 0 hm388638 he388639 dr_cX17_colours_156 rfl (gB_in bz388648 (by decide) (by decide)) (G_nam fun z388649 hz388649 => ?_)
                    have bz388649 : gB z388649 0 1999 := by rw [hz388649]; exact bf388640 _
                    refine G_istore (L' := [(4, .int z388649), (2, .int z388648), (3, .int g388573), (0, .ref q375310), (1, .int p375311)]) dr_cX17_colours_157 (Nat.le_of_ble_eq_true rfl) rfl ?_
                    refine G_lconst 0 dr_cX17_colours_159 rfl ?_
                    refine G_lstore (L' := [(5, .long 0), (4, .int z388649), (2, .int z388648), (3, .int g388573), (0, .ref q375310), (1, .int p375311)]) dr_cX17_colours_160 (Nat.le_of_ble_eq_true rfl) rfl ?_
                    refine G_iconst 0 dr_cX17_colours_162 (by decide +kernel) ?_
                    refine G_istore (L' := [(7, .int 0), (5, .long 0), (4, .int z388649), (2, .int z388648), (3, .int g388573), (0, .ref q375310), (1, .int p375311)]) dr_cX17_colours_163 (Nat.le_of_ble_eq_true rfl) rfl ?_
                    have hlp165_388744 : ∀ (n165_388744 : Nat) (g388743 : Int32) (gl388744 : Int64), gB g388743 0 2000 → ((2001 : Int) - g388743.toInt).toNat < n165_388744 → G (gV D I) l (gRm 2 43 0 0) (gMA (gV D I) (pt_375312_SpillForgeModel_colours D I γ el P375308 F375309 q375310 p375311) gNA 0 0) ky_375312_SpillForgeModel_colours 165 [(7, .int g388743), (5, .long gl388744), (4, .int z388649), (2, .int z388648), (3, .int g388573), (0, .ref q375310), (1, .int p375311)] [] (va_pl P375308 F388575) 0 0 := by
                      intro n165_388744
                      induction n165_388744 with
                      | zero => intro g388743 gl388744 bg388743 hm165_388744; exact absurd hm165_388744 (Nat.not_lt_zero _)
                      | succ n165_388744 ih165_388744 =>
                        intro g388743 gl388744 bg388743 hm165_388744
                        refine G_iload 0 dr_cX17_colours_165 rfl ?_
                        refine G_sipush 2000 dr_cX17_colours_167 (by decide +kernel) ?_
                        refine G_icmp_ge 218 dr_cX17_colours_170 (by decide +kernel) (fun hc388746 => ?_) (fun hc388746 => ?_)
                        · have r388747 : 2000 ≤ g388743.toInt := gj_leL hc388746 (show Int32.toInt 2000 = 2000 by decide)
                          have bg388743' : gB g388743 2000 2000 := ⟨by omega, by omega⟩
                          refine G_lload 1 dr_cX17_colours_218 rfl ?_
                          refine G_ldc2 (-1) dr_cX17_colours_220 wr_10_188 ?_
                          refine G_lxor dr_cX17_colours_223 (G_namL fun u388748 hu388748 => ?_)
                          refine Gw_callS (As := [.long u388748]) (gV_ok D I) (cp_2103_Long_numberOfTrailingZeros l hl0 D I P375308 F388575 u388748 ) dr_cX17_colours_224 ⟨wr_11_1, wr_1_31, wr_11_3, by decide, rfl, (Nat.le_of_ble_eq_true rfl), (Nat.le_of_ble_eq_true rfl)⟩ wr_11_2 (show 0 + 0 ≤ 0 by first | omega | decide) (show 0 + 0 ≤ 0 by first | omega | decide) (Nat.le_of_ble_eq_true rfl) (fun r388752 w388753 dc388749 ds388750 hp388751 => ?_) (fun _ _ _ _ _ z => z.elim)
                          rcases hp388751 with ⟨o388754, z388755, rfl, rfl, hdc, hds, r388756, r388757, r388758⟩ | ⟨z388759, z388760, rfl, rfl, hdc, hds, r388761, r388762, r388763⟩
                          · change G _ _ _ _ _ _ _ (.int o388754 :: _) _ _ _
                            refine G_widen (cs' := 0) (sl' := 0) (by omega) (by omega) ?_
                            refine G_istore (L' := [(7, .int o388754), (5, .long gl388744), (4, .int z388649), (2, .int z388648), (3, .int g388573), (0, .ref q375310), (1, .int p375311)]) dr_cX17_colours_227 (Nat.le_of_ble_eq_true rfl) rfl ?_
                            refine G_iload 0 dr_cX17_colours_229 rfl ?_
                            refine G_iload_n 6 dr_cX17_colours_231 rfl ?_
                            refine G_icmp_ge 247 dr_cX17_colours_232 (by decide +kernel) (fun hc388765 => ?_) (fun hc388765 => ?_)
                            · have r388766 : p375311.toInt ≤ o388754.toInt := gC_le hc388765
                              have r388757' : gB o388754 1 2147483647 := ⟨by omega, by omega⟩
                              obtain ⟨z388767, hz388767⟩ : ∃ z : Int32, z = g388573 + Int32.ofInt 1 := ⟨_, rfl⟩
                              have bz388767 : gB z388767 (-2147483648) 2147483647 := gB_any z388767
                              refine G_iinc (L' := [(3, .int z388767), (7, .int o388754), (5, .long gl388744), (4, .int z388649), (2, .int z388648), (0, .ref q375310), (1, .int p375311)]) z388767 4 dr_cX17_colours_247 rfl hz388767.symm (Nat.le_of_ble_eq_true rfl) rfl ?_
                              refine G_goto 144 dr_cX17_colours_250 (by decide +kernel) ?_
                              refine G_lv (L' := [(3, .int z388767), (2, .int z388648), (0, .ref q375310), (1, .int p375311)]) [0, 4, 5, 6] rfl ?_
                              exact ih144_388581 F388575 z388767 z388648 (gB_w bz388648 (by decide) (by decide)) hT388576 hs388577 (fun h0 => absurd h0 (by omega)) (by omega) x388580 x388581 (by omega)
                            · have r388768 : o388754.toInt < p375311.toInt := gC_nle hc388765
                              have r388757' : gB o388754 (-2147483648) 31 := ⟨by omega, by omega⟩
                              refine G_aload_n 5 dr_cX17_colours_235 rfl ?_
                              refine Gp_get 17 hm388585 he388586 dr_cX17_colours_236 (gk_X17 D I) (Nat.le_of_ble_eq_true rfl) wr_7_91 rfl ?_
                              refine G_iload 2 dr_cX17_colours_239 rfl ?_
                              refine G_iload 0 dr_cX17_colours_241 rfl ?_
                              refine Gp_iast 0 hm388641 he388642 dr_cX17_colours_243 rfl (gB_in bz388649 (by decide) (by decide)) (fun F388769 e388770 n388771 => ?_)
                              obtain ⟨f388772, hf388772⟩ : ∃ z, z = upd f388643 z388649.toNatClampNeg o388754 := ⟨_, rfl⟩
                              rw [← hf388772] at e388770
                              have he388773 : F388769 q375310 = .inr (22, [.ref (γ 9 0), .ref (γ 9 1), .ref (γ 9 2), .ref (γ 9 3), .ref (γ 9 4), .ref (γ 9 5), .ref (γ 9 6), .ref (γ 9 7), .ref (γ 9 8), .int p388589, .int p388590, .int p388591, .int p388592, .int p388593, .int p388594, .ref (γ 9 15), .ref (γ 9 16), .ref (γ 9 17), .ref (γ 9 18), .ref (γ 9 19), .ref (γ 9 20), .ref (γ 9 21), .ref (γ 9 22), .int p388595, .int p388596, .int p388597, .int p388598, .int p388599, .ref q388587, .ref (γ 9 29), .int p388600, .ref (γ 9 31), .int p388601, .int p388602, .int p388603, .ref q388588]) := (n388771 q375310 (rn_oa he388586 he388642)).trans he388586
                              have he388774 : F388769 (γ 9 3) = .inl (I .boolean, 2000, .inl f388634) := (n388771 (γ 9 3) (rn_ty ht388609 ht388617 (by decide))).trans he388633
                              have he388775 : F388769 (γ 9 18) = .inl (I .boolean, 2000, .inl f388637) := (n388771 (γ 9 18) (rn_ty ht388618 ht388617 (by decide))).trans he388636
                              have he388776 : F388769 (γ 9 15) = .inl (I .int, 2000, .inl f388640) := (n388771 (γ 9 15) (rn_ty ht388615 ht388617 (by decide))).trans he388639
                              have he388777 : F388769 (γ 9 17) = .inl (I .int, 2000, .inl f388772) := e388770
                              have hs388778 : rStr γ [] F375309 F388769 := rStr_put hs388577 n388771 ht388617 (by decide)
                              have kp388779 : F388769 q375310 = F375309 q375310 := (n388771 q375310 (rn_ty htq375310 ht388617 (by decide))).trans x388580
                              have kp388780 : F388769 (γ 9 3) = F375309 (γ 9 3) := (n388771 (γ 9 3) (rn_ty ht388609 ht388617 (by decide))).trans x388581
                              have bf388772 : gF f388772 (-2147483648) 31 := gF_upd hf388772 (gF_w bf388643 (by decide) (by decide)) r388757'
                              refine G_goto 250 dr_cX17_colours_244 (by decide +kernel) ?_
                              refine G_goto 144 dr_cX17_colours_250 (by decide +kernel) ?_
                              have hT388781 : RS D I P375308 F388769 γ el := RS_set hT388576 n388771 ht388617 (by decide) ⟨f388772, he388777, (gF_w bf388772 (by decide) (by decide))⟩
                              refine G_lv (L' := [(3, .int g388573), (2, .int z388648), (0, .ref q375310), (1, .int p375311)]) [4, 3, 5, 6] rfl ?_
                              exact ih144_388581 F388769 g388573 z388648 (gB_w bz388648 (by decide) (by decide)) hT388781 hs388778 (by rw [cB_of he388774, cB_of he388776, cB_of he388777]; exact fun h0 => co_u hz388649 hf388772 (by omega) (by omega) (by omega) (cq388644 h0)) (by omega) kp388779 kp388780 (by omega)
                          · change G _ _ _ _ _ _ _ (.int z388759 :: _) _ _ _
                            refine G_widen (cs' := 0) (sl' := 0) (by omega) (by omega) ?_
                            refine G_istore (L' := [(7, .int z388759), (5, .long gl388744), (4, .int z388649), (2, .int z388648), (3, .int g388573), (0, .ref q375310), (1, .int p375311)]) dr_cX17_colours_227 (Nat.le_of_ble_eq_true rfl) rfl ?_
                            refine G_iload 0 dr_cX17_colours_229 rfl ?_
                            refine G_iload_n 6 dr_cX17_colours_231 rfl ?_
                            refine G_icmp_ge 247 dr_cX17_colours_232 (by decide +kernel) (fun hc388782 => ?_) (fun hc388782 => ?_)
                            · have r388783 : p375311.toInt ≤ z388759.toInt := gC_le hc388782
                              have r388762' : gB z388759 1 2147483647 := ⟨by omega, by omega⟩
                              obtain ⟨z388784, hz388784⟩ : ∃ z : Int32, z = g388573 + Int32.ofInt 1 := ⟨_, rfl⟩
                              have bz388784 : gB z388784 (-2147483648) 2147483647 := gB_any z388784
                              refine G_iinc (L' := [(3, .int z388784), (7, .int z388759), (5, .long gl388744), (4, .int z388649), (2, .int z388648), (0, .ref q375310), (1, .int p375311)]) z388784 4 dr_cX17_colours_247 rfl hz388784.symm (Nat.le_of_ble_eq_true rfl) rfl ?_
                              refine G_goto 144 dr_cX17_colours_250 (by decide +kernel) ?_
                              refine G_lv (L' := [(3, .int z388784), (2, .int z388648), (0, .ref q375310), (1, .int p375311)]) [0, 4, 5, 6] rfl ?_
                              exact ih144_388581 F388575 z388784 z388648 (gB_w bz388648 (by decide) (by decide)) hT388576 hs388577 (fun h0 => absurd h0 (by omega)) (by omega) x388580 x388581 (by omega)
                            · have r388785 : z388759.toInt < p375311.toInt := gC_nle hc388782
                              have r388762' : gB z388759 (-2147483648) 31 := ⟨by omega, by omega⟩
                              refine G_aload_n 5 dr_cX17_colours_235 rfl ?_
                              refine Gp_get 17 hm388585 he388586 dr_cX17_colours_236 (gk_X17 D I) (Nat.le_of_ble_eq_true rfl) wr_7_91 rfl ?_
                              refine G_iload 2 dr_cX17_colours_239 rfl ?_
                              refine G_iload 0 dr_cX17_colours_241 rfl ?_
                              refine Gp_iast 0 hm388641 he388642 dr_cX17_colours_243 rfl (gB_in bz388649 (by decide) (by decide)) (fun F388786 e388787 n388788 => ?_)
                              obtain ⟨f388789, hf388789⟩ : ∃ z, z = upd f388643 z388649.toNatClampNeg z388759 := ⟨_, rfl⟩
                              rw [← hf388789] at e388787
                              have he388790 : F388786 q375310 = .inr (22, [.ref (γ 9 0), .ref (γ 9 1), .ref (γ 9 2), .ref (γ 9 3), .ref (γ 9 4), .ref (γ 9 5), .ref (γ 9 6), .ref (γ 9 7), .ref (γ 9 8), .int p388589, .int p388590, .int p388591, .int p388592, .int p388593, .int p388594, .ref (γ 9 15), .ref (γ 9 16), .ref (γ 9 17), .ref (γ 9 18), .ref (γ 9 19), .ref (γ 9 20), .ref (γ 9 21), .ref (γ 9 22), .int p388595, .int p388596, .int p388597, .int p388598, .int p388599, .ref q388587, .ref (γ 9 29), .int p388600, .ref (γ 9 31), .int p388601, .int p388602, .int p388603, .ref q388588]) := (n388788 q375310 (rn_oa he388586 he388642)).trans he388586
                              have he388791 : F388786 (γ 9 3) = .inl (I .boolean, 2000, .inl f388634) := (n388788 (γ 9 3) (rn_ty ht388609 ht388617 (by decide))).trans he388633
                              have he388792 : F388786 (γ 9 18) = .inl (I .boolean, 2000, .inl f388637) := (n388788 (γ 9 18) (rn_ty ht388618 ht388617 (by decide))).trans he388636
                              have he388793 : F388786 (γ 9 15) = .inl (I .int, 2000, .inl f388640) := (n388788 (γ 9 15) (rn_ty ht388615 ht388617 (by decide))).trans he388639
                              have he388794 : F388786 (γ 9 17) = .inl (I .int, 2000, .inl f388789) := e388787
                              have hs388795 : rStr γ [] F375309 F388786 := rStr_put hs388577 n388788 ht388617 (by decide)
                              have kp388796 : F388786 q375310 = F375309 q375310 := (n388788 q375310 (rn_ty htq375310 ht388617 (by decide))).trans x388580
                              have kp388797 : F388786 (γ 9 3) = F375309 (γ 9 3) := (n388788 (γ 9 3) (rn_ty ht388609 ht388617 (by decide))).trans x388581
                              have bf388789 : gF f388789 (-2147483648) 31 := gF_upd hf388789 (gF_w bf388643 (by decide) (by decide)) r388762'
                              refine G_goto 250 dr_cX17_colours_244 (by decide +kernel) ?_
                              refine G_goto 144 dr_cX17_colours_250 (by decide +kernel) ?_
                              have hT388798 : RS D I P375308 F388786 γ el := RS_set hT388576 n388788 ht388617 (by decide) ⟨f388789, he388794, (gF_w bf388789 (by decide) (by decide))⟩
                              refine G_lv (L' := [(3, .int g388573), (2, .int z388648), (0, .ref q375310), (1, .int p375311)]) [4, 3, 5, 6] rfl ?_
                              exact ih144_388581 F388786 g388573 z388648 (gB_w bz388648 (by decide) (by decide)) hT388798 hs388795 (by rw [cB_of he388791, cB_of he388793, cB_of he388794]; exact fun h0 => co_u hz388649 hf388789 (by omega) (by omega) (by omega) (cq388644 h0)) (by omega) kp388796 kp388797 (by omega)
                        · have r388799 : g388743.toInt < 2000 := gj_nleL hc388746 (show Int32.toInt 2000 = 2000 by decide)
                          have bg388743' : gB g388743 0 1999 := ⟨by omega, by omega⟩
                          refine G_aload_n 5 dr_cX17_colours_173 rfl ?_
                          refine Gp_get 17 hm388585 he388586 dr_cX17_colours_174 (gk_X17 D I) (Nat.le_of_ble_eq_true rfl) wr_7_91 rfl ?_
                          refine G_iload 0 dr_cX17_colours_177 rfl ?_
                          refine Gp_iald 0 hm388641 he388642 dr_cX17_colours_179 rfl (gB_in bg388743' (by decide) (by decide)) (G_nam fun z388800 hz388800 => ?_)
                          have bz388800 : gB z388800 (-1) 31 := by rw [hz388800]; exact bf388643 _
                          refine G_if_lt 212 dr_cX17_colours_180 (by decide +kernel) (fun hc388801 => ?_) (fun hc388801 => ?_)
                          · have r388802 : z388800.toInt < 0 := gj_lt hc388801 (show Int32.toInt 0 = 0 by decide)
                            have bz388800' : gB z388800 (-1) (-1) := ⟨by omega, by omega⟩
                            obtain ⟨z388803, hz388803⟩ : ∃ z : Int32, z = g388743 + Int32.ofInt 1 := ⟨_, rfl⟩
                            have ez388803 : z388803.toInt = g388743.toInt + 1 := gI_inc hz388803 (by decide) bg388743' (by decide) (by decide)
                            have bz388803 : gB z388803 1 2000 := ⟨by omega, by omega⟩
                            refine G_iinc (L' := [(7, .int z388803), (5, .long gl388744), (4, .int z388649), (2, .int z388648), (3, .int g388573), (0, .ref q375310), (1, .int p375311)]) z388803 0 dr_cX17_colours_212 rfl hz388803.symm (Nat.le_of_ble_eq_true rfl) rfl ?_
                            refine G_goto 165 dr_cX17_colours_215 (by decide +kernel) ?_
                            exact ih165_388744 z388803 gl388744 (gB_w bz388803 (by decide) (by decide)) (by omega)
                          · have r388804 : 0 ≤ z388800.toInt := gj_nlt hc388801 (show Int32.toInt 0 = 0 by decide)
                            have bz388800' : gB z388800 0 31 := ⟨by omega, by omega⟩
                            refine G_aload_n 5 dr_cX17_colours_183 rfl ?_
                            refine Gp_get 1 hm388585 he388586 dr_cX17_colours_184 (gk_X17 D I) (Nat.le_of_ble_eq_true rfl) wr_7_75 rfl ?_
                            refine G_iload 2 dr_cX17_colours_187 rfl ?_
                            have hm388805 : (γ 9 1) ∈ P375308 := RS_m hT388576 ht388607 (by decide)
                            obtain ⟨f388807, he388806, hg388808⟩ := show rk_13 I γ (F388575 (γ 9 1)) from RS_o hT388576 ht388607
                            obtain ⟨q388809, hx388811⟩ : ∃ x, x = γ 11 z388649.toInt.toNat := ⟨_, rfl⟩
                            have ht388810 : rKd γ q388809 36 := by rw [hx388811]; exact (hg388808 _ (show z388649.toInt.toNat < 2000 by omega)).2.1
                            refine Gp_aald 5 hm388805 he388806 dr_cX17_colours_189 rfl rfl (gB_in bz388649 (by decide) (by decide)) ?_
                            rw [show f388807 z388649.toNatClampNeg = some q388809 from (hg388808 _ (show z388649.toInt.toNat < 2000 by omega)).1.trans (by rw [hx388811])]
                            change G _ _ _ _ _ _ _ (.ref q388809 :: _) _ _ _
                            refine G_iload 0 dr_cX17_colours_190 rfl ?_
                            have hm388812 : q388809 ∈ P375308 := RS_m hT388576 ht388810 (by decide)
                            obtain ⟨f388814, he388813, wf388814⟩ := show rk_36 I (F388575 q388809) from RS_o hT388576 ht388810
                            refine Gw_callS (As := [.ref q388809, .int g388743]) (gV_ok D I) (cp_1838_SpillForgeModel_has l hl0 D I P375308 F388575 q388809 g388743 f388814 hm388812 he388813 (gB_w bg388743' (by decide) (by decide))) dr_cX17_colours_192 ⟨wr_10_203, wr_1_14, wr_10_205, by decide, rfl, (Nat.le_of_ble_eq_true rfl), (Nat.le_of_ble_eq_true rfl)⟩ wr_10_204 (show 0 + 0 ≤ 0 by first | omega | decide) (show 0 + 0 ≤ 0 by first | omega | decide) (Nat.le_of_ble_eq_true rfl) (fun r388818 w388819 dc388815 ds388816 hp388817 => ?_) (fun _ _ _ _ _ z => z.elim)
                            rcases hp388817 with ⟨z388820, z388821, rfl, rfl, hdc, hds, r388822, r388823, r388824, r388825⟩ | ⟨z388826, z388827, rfl, rfl, hdc, hds, r388828, r388829, r388830, r388831⟩
                            · change G _ _ _ _ _ _ _ (.int 0 :: _) _ _ _
                              refine G_widen (cs' := 0) (sl' := 0) (by omega) (by omega) ?_
                              refine G_if_eq 212 dr_cX17_colours_195 (by decide +kernel) (fun _ => ?_) (fun hc => absurd hc (by decide))
                              obtain ⟨z388833, hz388833⟩ : ∃ z : Int32, z = g388743 + Int32.ofInt 1 := ⟨_, rfl⟩
                              have ez388833 : z388833.toInt = g388743.toInt + 1 := gI_inc hz388833 (by decide) bg388743' (by decide) (by decide)
                              have bz388833 : gB z388833 1 2000 := ⟨by omega, by omega⟩
                              refine G_iinc (L' := [(7, .int z388833), (5, .long gl388744), (4, .int z388649), (2, .int z388648), (3, .int g388573), (0, .ref q375310), (1, .int p375311)]) z388833 0 dr_cX17_colours_212 rfl hz388833.symm (Nat.le_of_ble_eq_true rfl) rfl ?_
                              refine G_goto 165 dr_cX17_colours_215 (by decide +kernel) ?_
                              exact ih165_388744 z388833 gl388744 (gB_w bz388833 (by decide) (by decide)) (by omega)
                            · change G _ _ _ _ _ _ _ (.int 1 :: _) _ _ _
                              refine G_widen (cs' := 0) (sl' := 0) (by omega) (by omega) ?_
                              refine G_if_eq 212 dr_cX17_colours_195 (by decide +kernel) (fun hc => absurd hc (by decide)) (fun _ => ?_)
                              refine G_lload 1 dr_cX17_colours_198 rfl ?_
                              refine G_lconst 1 dr_cX17_colours_200 rfl ?_
                              refine G_aload_n 5 dr_cX17_colours_201 rfl ?_
                              refine Gp_get 17 hm388585 he388586 dr_cX17_colours_202 (gk_X17 D I) (Nat.le_of_ble_eq_true rfl) wr_7_91 rfl ?_
                              refine G_iload 0 dr_cX17_colours_205 rfl ?_
                              refine Gp_iald 0 hm388641 he388642 dr_cX17_colours_207 rfl (gB_in bg388743' (by decide) (by decide)) (G_eqi (y := z388800) hz388800.symm ?_)
                              refine G_lshl dr_cX17_colours_208 (G_namL fun u388834 hu388834 => ?_)
                              have qu388834 : lb_Q u388834 (z388800.toInt % 64 + 1) := lb_Qshl hu388834 (by omega)
                              refine G_lor dr_cX17_colours_209 (G_namL fun u388835 hu388835 => ?_)
                              refine G_lstore (L' := [(5, .long u388835), (7, .int g388743), (4, .int z388649), (2, .int z388648), (3, .int g388573), (0, .ref q375310), (1, .int p375311)]) dr_cX17_colours_210 (Nat.le_of_ble_eq_true rfl) rfl ?_
                              obtain ⟨z388836, hz388836⟩ : ∃ z : Int32, z = g388743 + Int32.ofInt 1 := ⟨_, rfl⟩
                              have ez388836 : z388836.toInt = g388743.toInt + 1 := gI_inc hz388836 (by decide) bg388743' (by decide) (by decide)
                              have bz388836 : gB z388836 1 2000 := ⟨by omega, by omega⟩
                              refine G_iinc (L' := [(7, .int z388836), (5, .long u388835), (4, .int z388649), (2, .int z388648), (3, .int g388573), (0, .ref q375310), (1, .int p375311)]) z388836 1 dr_cX17_colours_212 rfl hz388836.symm (Nat.le_of_ble_eq_true rfl) rfl ?_
                              refine G_goto 165 dr_cX17_colours_215 (by decide +kernel) ?_
                              exact ih165_388744 z388836 u388835 (gB_w bz388836 (by decide) (by decide)) (by omega)
                    exact hlp165_388744 (((2001 : Int) - 0).toNat + 1) 0 0 (gB_w (gBl (show Int32.toInt 0 = 0 by decide)) (by decide) (by decide)) (Nat.lt_succ_self _)
              exact hlp144_388581 (((g388237.toInt : Int) - (-1)).toNat + 1) F388238 0 g388237 bg388237 hT388239 hs388240 (by rw [cB_of he388298, cB_of he388304, cB_of he388307]; exact fun _ m s => Or.inl ((cq388309 m s).resolve_left (cq388312 (by omega) m))) (by have qa0 : Int32.toInt 0 = 0 := (by decide); omega) x388245 x388246 (Nat.lt_succ_self _)
            · have r388837 : 0 ≤ g388236.toInt := gj_nlt hc388313 (show Int32.toInt 0 = 0 by decide)
              have bg388236' : gB g388236 0 1999 := ⟨by omega, by omega⟩
              have r388838 := rcn_pos (cq388311 (by omega))
              have r388839 := cq388310
              have bg388237' : gB g388237 0 1999 := ⟨by omega, by omega⟩
              refine G_aload_n 2 dr_cX17_colours_74 rfl ?_
              refine Gp_get 15 hm388250 he388251 dr_cX17_colours_75 (gk_X17 D I) (Nat.le_of_ble_eq_true rfl) wr_7_89 rfl ?_
              refine G_iload_n 1 dr_cX17_colours_78 rfl ?_
              refine G_iload_n 0 dr_cX17_colours_79 rfl ?_
              refine Gp_iast 0 hm388303 he388304 dr_cX17_colours_80 rfl (gB_in bg388237' (by decide) (by decide)) (fun F388840 e388841 n388842 => ?_)
              obtain ⟨f388843, hf388843⟩ : ∃ z, z = upd f388305 g388237.toNatClampNeg g388236 := ⟨_, rfl⟩
              rw [← hf388843] at e388841
              have he388844 : F388840 q375310 = .inr (22, [.ref (γ 9 0), .ref (γ 9 1), .ref (γ 9 2), .ref (γ 9 3), .ref (γ 9 4), .ref (γ 9 5), .ref (γ 9 6), .ref (γ 9 7), .ref (γ 9 8), .int p388254, .int p388255, .int p388256, .int p388257, .int p388258, .int p388259, .ref (γ 9 15), .ref (γ 9 16), .ref (γ 9 17), .ref (γ 9 18), .ref (γ 9 19), .ref (γ 9 20), .ref (γ 9 21), .ref (γ 9 22), .int p388260, .int p388261, .int p388262, .int p388263, .int p388264, .ref q388252, .ref (γ 9 29), .int p388265, .ref (γ 9 31), .int p388266, .int p388267, .int p388268, .ref q388253]) := (n388842 q375310 (rn_oa he388251 he388304)).trans he388251
              have he388845 : F388840 (γ 9 3) = .inl (I .boolean, 2000, .inl f388299) := (n388842 (γ 9 3) (rn_ty ht388274 ht388280 (by decide))).trans he388298
              have he388846 : F388840 (γ 9 18) = .inl (I .boolean, 2000, .inl f388302) := (n388842 (γ 9 18) (rn_ty ht388283 ht388280 (by decide))).trans he388301
              have he388847 : F388840 (γ 9 17) = .inl (I .int, 2000, .inl f388308) := (n388842 (γ 9 17) (rn_ty ht388282 ht388280 (by decide))).trans he388307
              have he388848 : F388840 (γ 9 15) = .inl (I .int, 2000, .inl f388843) := e388841
              have hs388849 : rStr γ [] F375309 F388840 := rStr_put hs388240 n388842 ht388280 (by decide)
              have kp388850 : F388840 q375310 = F375309 q375310 := (n388842 q375310 (rn_ty htq375310 ht388280 (by decide))).trans x388245
              have kp388851 : F388840 (γ 9 3) = F375309 (γ 9 3) := (n388842 (γ 9 3) (rn_ty ht388274 ht388280 (by decide))).trans x388246
              have bf388843 : gF f388843 0 1999 := gF_upd hf388843 bf388305 bg388236'
              obtain ⟨z388852, hz388852⟩ : ∃ z : Int32, z = g388237 + Int32.ofInt 1 := ⟨_, rfl⟩
              have ez388852 : z388852.toInt = g388237.toInt + 1 := gI_inc hz388852 (by decide) bg388237' (by decide) (by decide)
              have bz388852 : gB z388852 1 2000 := ⟨by omega, by omega⟩
              refine G_iinc (L' := [(2, .int z388852), (3, .int g388236), (0, .ref q375310), (1, .int p375311)]) z388852 1 dr_cX17_colours_81 rfl hz388852.symm (Nat.le_of_ble_eq_true rfl) rfl ?_
              refine G_aload_n 2 dr_cX17_colours_84 rfl ?_
              refine Gp_get 18 hm388250 he388844 dr_cX17_colours_85 (gk_X17 D I) (Nat.le_of_ble_eq_true rfl) wr_7_92 rfl ?_
              refine G_iload_n 1 dr_cX17_colours_88 rfl ?_
              refine G_iconst 0 dr_cX17_colours_89 (by decide +kernel) ?_
              have hT388853 : RS D I P375308 F388840 γ el := RS_set hT388239 n388842 ht388280 (by decide) ⟨f388843, he388848, bf388843⟩
              refine Gp_zast 3 hm388300 he388846 dr_cX17_colours_90 rfl (gB_in bg388236' (by decide) (by decide)) (fun F388854 e388855 n388856 => ?_)
              obtain ⟨f388857, hf388857⟩ : ∃ z, z = upd f388302 g388236.toNatClampNeg (vp_nar .boolean 0) := ⟨_, rfl⟩
              rw [← hf388857] at e388855
              have he388858 : F388854 q375310 = .inr (22, [.ref (γ 9 0), .ref (γ 9 1), .ref (γ 9 2), .ref (γ 9 3), .ref (γ 9 4), .ref (γ 9 5), .ref (γ 9 6), .ref (γ 9 7), .ref (γ 9 8), .int p388254, .int p388255, .int p388256, .int p388257, .int p388258, .int p388259, .ref (γ 9 15), .ref (γ 9 16), .ref (γ 9 17), .ref (γ 9 18), .ref (γ 9 19), .ref (γ 9 20), .ref (γ 9 21), .ref (γ 9 22), .int p388260, .int p388261, .int p388262, .int p388263, .int p388264, .ref q388252, .ref (γ 9 29), .int p388265, .ref (γ 9 31), .int p388266, .int p388267, .int p388268, .ref q388253]) := (n388856 q375310 (rn_oa he388844 he388846)).trans he388844
              have he388859 : F388854 (γ 9 3) = .inl (I .boolean, 2000, .inl f388299) := (n388856 (γ 9 3) (rn_ty ht388274 ht388283 (by decide))).trans he388845
              have he388860 : F388854 (γ 9 15) = .inl (I .int, 2000, .inl f388843) := (n388856 (γ 9 15) (rn_ty ht388280 ht388283 (by decide))).trans he388848
              have he388861 : F388854 (γ 9 17) = .inl (I .int, 2000, .inl f388308) := (n388856 (γ 9 17) (rn_ty ht388282 ht388283 (by decide))).trans he388847
              have he388862 : F388854 (γ 9 18) = .inl (I .boolean, 2000, .inl f388857) := e388855
              have hs388863 : rStr γ [] F375309 F388854 := rStr_put hs388849 n388856 ht388283 (by decide)
              have kp388864 : F388854 q375310 = F375309 q375310 := (n388856 q375310 (rn_ty htq375310 ht388283 (by decide))).trans kp388850
              have kp388865 : F388854 (γ 9 3) = F375309 (γ 9 3) := (n388856 (γ 9 3) (rn_ty ht388274 ht388283 (by decide))).trans kp388851
              have bf388857 : gF f388857 0 1 := gF_upd hf388857 bf388302 (gB_w (gBl (show Int32.toInt 0 = 0 by decide)) (by decide) (by decide))
              have hT388867 : RS D I P375308 F388854 γ el := RS_set hT388853 n388856 ht388283 (by decide) ⟨f388857, he388862, bf388857⟩
              have td388866 := th_d hf388857 (by omega) (cq388311 (by omega))
              refine G_iconst 0 dr_cX17_colours_91 (by decide +kernel) ?_
              refine G_istore (L' := [(4, .int 0), (2, .int z388852), (3, .int g388236), (0, .ref q375310), (1, .int p375311)]) dr_cX17_colours_92 (Nat.le_of_ble_eq_true rfl) rfl ?_
              have hlp94_389003 : ∀ (n94_389003 : Nat) (F388996 : Nat → va_E) (g388995 : Int32), gB g388995 0 2000 → RS D I P375308 F388996 γ el → rStr γ [] F375309 F388996 → (∀ m : Nat, rSd (cB (F388996 (γ 9 3))) m → rSd (cB (F388996 (γ 9 18))) m ∨ ∃ i : Nat, (i : Int) < z388852.toInt ∧ (cB (F388996 (γ 9 15)) i).toInt = m) → (rcn (cB (F388996 (γ 9 18))) 2000 + (z388852.toInt : Int).toNat ≤ 2000) → (rcn (cB (F388996 (γ 9 18))) 2000 + 1 ≤ rcn (cB (F388238 (γ 9 18))) 2000) → (F388996 q375310 = F375309 q375310) → (F388996 (γ 9 3) = F375309 (γ 9 3)) → ((2001 : Int) - g388995.toInt).toNat < n94_389003 → G (gV D I) l (gRm 2 43 0 0) (gMA (gV D I) (pt_375312_SpillForgeModel_colours D I γ el P375308 F375309 q375310 p375311) gNA 0 0) ky_375312_SpillForgeModel_colours 94 [(4, .int g388995), (2, .int z388852), (3, .int g388236), (0, .ref q375310), (1, .int p375311)] [] (va_pl P375308 F388996) 0 0 := by
                intro n94_389003
                induction n94_389003 with
                | zero => intro F388996 g388995 bg388995 hT388997 hs388998 x388999 x389000 x389001 x389002 x389003 hm94_389003; exact absurd hm94_389003 (Nat.not_lt_zero _)
                | succ n94_389003 ih94_389003 =>
                  intro F388996 g388995 bg388995 hT388997 hs388998 x388999 x389000 x389001 x389002 x389003 hm94_389003
                  have hs389005 : rStr γ [] F388854 F388996 := fun b h0 hb hw => (hs388998 b h0 hb hw).trans (hs388863 b h0 hb hw).symm
                  have hs389006 : rStr γ [] F375309 F388996 := rStr_tr hs388863 hs389005
                  have hm389007 : q375310 ∈ P375308 := RS_m hT388997 htq375310 (by decide)
                  obtain ⟨q389009, q389010, p389011, p389012, p389013, p389014, p389015, p389016, p389017, p389018, p389019, p389020, p389021, p389022, p389023, p389024, p389025, he389008, hB389052, ht389026, ht389027, ht389028, ht389029, ht389030, ht389031, ht389032, ht389033, ht389034, ht389035, ht389036, ht389037, ht389038, ht389039, ht389040, ht389041, ht389042, ht389043, ht389044, ht389045, ht389046, ht389047, ht389048, ht389049, hB389053⟩ := show rk_10 γ (F388996 q375310) from RS_o hT388997 htq375310
                  have hm389054 : (γ 9 3) ∈ P375308 := RS_m hT388997 ht389031 (by decide)
                  obtain ⟨f389056, he389055, bf389056⟩ := show rk_14 I (F388996 (γ 9 3)) from RS_o hT388997 ht389031
                  have hm389057 : (γ 9 18) ∈ P375308 := RS_m hT388997 ht389040 (by decide)
                  obtain ⟨f389059, he389058, bf389059⟩ := show rk_15 I (F388996 (γ 9 18)) from RS_o hT388997 ht389040
                  have hm389060 : (γ 9 15) ∈ P375308 := RS_m hT388997 ht389037 (by decide)
                  obtain ⟨f389062, he389061, bf389062⟩ := show rk_18 I (F388996 (γ 9 15)) from RS_o hT388997 ht389037
                  have hm389063 : (γ 9 17) ∈ P375308 := RS_m hT388997 ht389039 (by decide)
                  obtain ⟨f389065, he389064, bf389065⟩ := show rk_20 I (F388996 (γ 9 17)) from RS_o hT388997 ht389039
                  have cq389066 := x388999
                  rw [cB_of he389055, cB_of he389058, cB_of he389061] at cq389066
                  have cq389067 := x389000
                  rw [cB_of he389058] at cq389067
                  have cq389068 := x389001
                  rw [cB_of he389058] at cq389068
                  refine G_iload 0 dr_cX17_colours_94 rfl ?_
                  refine G_sipush 2000 dr_cX17_colours_96 (by decide +kernel) ?_
                  refine G_icmp_ge 133 dr_cX17_colours_99 (by decide +kernel) (fun hc389069 => ?_) (fun hc389069 => ?_)
                  · have r389070 : 2000 ≤ g388995.toInt := gj_leL hc389069 (show Int32.toInt 2000 = 2000 by decide)
                    have bg388995' : gB g388995 2000 2000 := ⟨by omega, by omega⟩
                    refine G_aload_n 3 dr_cX17_colours_133 rfl ?_
                    refine G_iload_n 4 dr_cX17_colours_134 rfl ?_
                    refine Gw_callV (As := [.int p375311]) (gV_ok D I) (ct_376378_SpillForgeModel_next l hl0 D I γ el P375308 F388996 q375310 p375311 hT388997 htq375310) dr_cX17_colours_135 ⟨wr_11_51, wr_1_14, wr_11_54, by decide, rfl, (Nat.le_of_ble_eq_true rfl), (Nat.le_of_ble_eq_true rfl)⟩ wr_11_53 wr_p_107 hm389007 he389008 rfl (show 0 + 0 ≤ 0 by first | omega | decide) (show 0 + 0 ≤ 0 by first | omega | decide) (Nat.le_of_ble_eq_true rfl) (fun r389074 w389075 dc389071 ds389072 hp389073 => ?_) (fun _ _ _ _ _ z => z.elim)
                    obtain ⟨o389076, rfl, rfl, hdc, hds, bo389076, x389077, x389078⟩ := hp389073
                    change G _ _ _ _ _ _ _ (.int o389076 :: _) _ _ _
                    refine G_widen (cs' := 0) (sl' := 0) (by omega) (by omega) ?_
                    refine G_istore_n (L' := [(3, .int o389076), (4, .int g388995), (2, .int z388852), (0, .ref q375310), (1, .int p375311)]) dr_cX17_colours_138 (Nat.le_of_ble_eq_true rfl) rfl ?_
                    refine G_goto 70 dr_cX17_colours_139 (by decide +kernel) ?_
                    refine G_lv (L' := [(3, .int o389076), (2, .int z388852), (0, .ref q375310), (1, .int p375311)]) [0, 2, 3, 4] rfl ?_
                    exact ih70_388246 F388996 o389076 z388852 bo389076 (gB_w bz388852 (by decide) (by decide)) hT388997 hs388998 (by rw [cB_of he389055, cB_of he389058, cB_of he389061]; exact cq389066) (by rw [cB_of he389058]; exact cq389067) x389077 x389078 x389002 x389003 (by have q := cq389068; rw [cB_of he388301] at q; rw [cB_of he389058]; rw [cB_of he388301] at hm70_388246; omega)
                  · have r389079 : g388995.toInt < 2000 := gj_nleL hc389069 (show Int32.toInt 2000 = 2000 by decide)
                    have bg388995' : gB g388995 0 1999 := ⟨by omega, by omega⟩
                    refine G_aload_n 3 dr_cX17_colours_102 rfl ?_
                    refine Gp_get 1 hm389007 he389008 dr_cX17_colours_103 (gk_X17 D I) (Nat.le_of_ble_eq_true rfl) wr_7_75 rfl ?_
                    refine G_iload_n 2 dr_cX17_colours_106 rfl ?_
                    have hm389080 : (γ 9 1) ∈ P375308 := RS_m hT388997 ht389029 (by decide)
                    obtain ⟨f389082, he389081, hg389083⟩ := show rk_13 I γ (F388996 (γ 9 1)) from RS_o hT388997 ht389029
                    obtain ⟨q389084, hx389086⟩ : ∃ x, x = γ 11 g388236.toInt.toNat := ⟨_, rfl⟩
                    have ht389085 : rKd γ q389084 36 := by rw [hx389086]; exact (hg389083 _ (show g388236.toInt.toNat < 2000 by omega)).2.1
                    refine Gp_aald 5 hm389080 he389081 dr_cX17_colours_107 rfl rfl (gB_in bg388236' (by decide) (by decide)) ?_
                    rw [show f389082 g388236.toNatClampNeg = some q389084 from (hg389083 _ (show g388236.toInt.toNat < 2000 by omega)).1.trans (by rw [hx389086])]
                    change G _ _ _ _ _ _ _ (.ref q389084 :: _) _ _ _
                    refine G_iload 0 dr_cX17_colours_108 rfl ?_
                    have hm389087 : q389084 ∈ P375308 := RS_m hT388997 ht389085 (by decide)
                    obtain ⟨f389089, he389088, wf389089⟩ := show rk_36 I (F388996 q389084) from RS_o hT388997 ht389085
                    refine Gw_callS (As := [.ref q389084, .int g388995]) (gV_ok D I) (cp_1838_SpillForgeModel_has l hl0 D I P375308 F388996 q389084 g388995 f389089 hm389087 he389088 (gB_w bg388995' (by decide) (by decide))) dr_cX17_colours_110 ⟨wr_10_203, wr_1_14, wr_10_205, by decide, rfl, (Nat.le_of_ble_eq_true rfl), (Nat.le_of_ble_eq_true rfl)⟩ wr_10_204 (show 0 + 0 ≤ 0 by first | omega | decide) (show 0 + 0 ≤ 0 by first | omega | decide) (Nat.le_of_ble_eq_true rfl) (fun r389093 w389094 dc389090 ds389091 hp389092 => ?_) (fun _ _ _ _ _ z => z.elim)
                    rcases hp389092 with ⟨z389095, z389096, rfl, rfl, hdc, hds, r389097, r389098, r389099, r389100⟩ | ⟨z389101, z389102, rfl, rfl, hdc, hds, r389103, r389104, r389105, r389106⟩
                    · change G _ _ _ _ _ _ _ (.int 0 :: _) _ _ _
                      refine G_widen (cs' := 0) (sl' := 0) (by omega) (by omega) ?_
                      refine G_if_eq 127 dr_cX17_colours_113 (by decide +kernel) (fun _ => ?_) (fun hc => absurd hc (by decide))
                      obtain ⟨z389108, hz389108⟩ : ∃ z : Int32, z = g388995 + Int32.ofInt 1 := ⟨_, rfl⟩
                      have ez389108 : z389108.toInt = g388995.toInt + 1 := gI_inc hz389108 (by decide) bg388995' (by decide) (by decide)
                      have bz389108 : gB z389108 1 2000 := ⟨by omega, by omega⟩
                      refine G_iinc (L' := [(4, .int z389108), (2, .int z388852), (3, .int g388236), (0, .ref q375310), (1, .int p375311)]) z389108 0 dr_cX17_colours_127 rfl hz389108.symm (Nat.le_of_ble_eq_true rfl) rfl ?_
                      refine G_goto 94 dr_cX17_colours_130 (by decide +kernel) ?_
                      exact ih94_389003 F388996 z389108 (gB_w bz389108 (by decide) (by decide)) hT388997 hs388998 (by rw [cB_of he389055, cB_of he389058, cB_of he389061]; exact cq389066) (by rw [cB_of he389058]; exact cq389067) (by rw [cB_of he389058]; exact cq389068) x389002 x389003 (by omega)
                    · change G _ _ _ _ _ _ _ (.int 1 :: _) _ _ _
                      refine G_widen (cs' := 0) (sl' := 0) (by omega) (by omega) ?_
                      refine G_if_eq 127 dr_cX17_colours_113 (by decide +kernel) (fun hc => absurd hc (by decide)) (fun _ => ?_)
                      refine G_aload_n 3 dr_cX17_colours_116 rfl ?_
                      refine Gp_get 16 hm389007 he389008 dr_cX17_colours_117 (gk_X17 D I) (Nat.le_of_ble_eq_true rfl) wr_7_90 rfl ?_
                      refine G_iload 0 dr_cX17_colours_120 rfl ?_
                      refine G_dup2_11 dr_cX17_colours_122 rfl rfl ?_
                      have hm389109 : (γ 9 16) ∈ P375308 := RS_m hT388997 ht389038 (by decide)
                      obtain ⟨f389111, he389110⟩ := show rk_19 I (F388996 (γ 9 16)) from RS_o hT388997 ht389038
                      refine Gp_iald 0 hm389109 he389110 dr_cX17_colours_123 rfl (gB_in bg388995' (by decide) (by decide)) (G_nam fun z389112 hz389112 => ?_)
                      have bz389112 : gB z389112 (-2147483648) 2147483647 := gB_any z389112
                      refine G_iconst 1 dr_cX17_colours_124 (by decide +kernel) ?_
                      refine G_isub dr_cX17_colours_125 (G_nam fun z389113 hz389113 => ?_)
                      have bz389113 : gB z389113 (-2147483648) 2147483647 := gB_any z389113
                      refine Gp_iast 0 hm389109 he389110 dr_cX17_colours_126 rfl (gB_in bg388995' (by decide) (by decide)) (fun F389114 e389115 n389116 => ?_)
                      obtain ⟨f389117, hf389117⟩ : ∃ z, z = upd f389111 g388995.toNatClampNeg z389113 := ⟨_, rfl⟩
                      rw [← hf389117] at e389115
                      have he389118 : F389114 q375310 = .inr (22, [.ref (γ 9 0), .ref (γ 9 1), .ref (γ 9 2), .ref (γ 9 3), .ref (γ 9 4), .ref (γ 9 5), .ref (γ 9 6), .ref (γ 9 7), .ref (γ 9 8), .int p389011, .int p389012, .int p389013, .int p389014, .int p389015, .int p389016, .ref (γ 9 15), .ref (γ 9 16), .ref (γ 9 17), .ref (γ 9 18), .ref (γ 9 19), .ref (γ 9 20), .ref (γ 9 21), .ref (γ 9 22), .int p389017, .int p389018, .int p389019, .int p389020, .int p389021, .ref q389009, .ref (γ 9 29), .int p389022, .ref (γ 9 31), .int p389023, .int p389024, .int p389025, .ref q389010]) := (n389116 q375310 (rn_oa he389008 he389110)).trans he389008
                      have he389119 : F389114 (γ 9 3) = .inl (I .boolean, 2000, .inl f389056) := (n389116 (γ 9 3) (rn_ty ht389031 ht389038 (by decide))).trans he389055
                      have he389120 : F389114 (γ 9 18) = .inl (I .boolean, 2000, .inl f389059) := (n389116 (γ 9 18) (rn_ty ht389040 ht389038 (by decide))).trans he389058
                      have he389121 : F389114 (γ 9 15) = .inl (I .int, 2000, .inl f389062) := (n389116 (γ 9 15) (rn_ty ht389037 ht389038 (by decide))).trans he389061
                      have he389122 : F389114 (γ 9 17) = .inl (I .int, 2000, .inl f389065) := (n389116 (γ 9 17) (rn_ty ht389039 ht389038 (by decide))).trans he389064
                      have he389123 : F389114 (γ 9 1) = .inl (I (.array .long), 2000, .inr (.inr (.inr (.inr f389082)))) := (n389116 (γ 9 1) (rn_ref_num he389081 he389110)).trans he389081
                      have he389124 : F389114 q389084 = .inl (I .long, 32, .inr (.inl f389089)) := (n389116 q389084 (rn_long_num he389088 he389110)).trans he389088
                      have he389125 : F389114 (γ 9 16) = .inl (I .int, 2000, .inl f389117) := e389115
                      have hs389126 : rStr γ [] F375309 F389114 := rStr_put hs388998 n389116 ht389038 (by decide)
                      have kp389127 : F389114 q375310 = F375309 q375310 := (n389116 q375310 (rn_ty htq375310 ht389038 (by decide))).trans x389002
                      have kp389128 : F389114 (γ 9 3) = F375309 (γ 9 3) := (n389116 (γ 9 3) (rn_ty ht389031 ht389038 (by decide))).trans x389003
                      obtain ⟨z389129, hz389129⟩ : ∃ z : Int32, z = g388995 + Int32.ofInt 1 := ⟨_, rfl⟩
                      have ez389129 : z389129.toInt = g388995.toInt + 1 := gI_inc hz389129 (by decide) bg388995' (by decide) (by decide)
                      have bz389129 : gB z389129 1 2000 := ⟨by omega, by omega⟩
                      refine G_iinc (L' := [(4, .int z389129), (2, .int z388852), (3, .int g388236), (0, .ref q375310), (1, .int p375311)]) z389129 0 dr_cX17_colours_127 rfl hz389129.symm (Nat.le_of_ble_eq_true rfl) rfl ?_
                      refine G_goto 94 dr_cX17_colours_130 (by decide +kernel) ?_
                      have hT389130 : RS D I P375308 F389114 γ el := RS_set hT388997 n389116 ht389038 (by decide) ⟨f389117, he389125⟩
                      exact ih94_389003 F389114 z389129 (gB_w bz389129 (by decide) (by decide)) hT389130 hs389126 (by rw [cB_of he389119, cB_of he389120, cB_of he389121]; exact cq389066) (by rw [cB_of he389120]; exact cq389067) (by rw [cB_of he389120]; exact cq389068) kp389127 kp389128 (by omega)
              exact hlp94_389003 (((2001 : Int) - 0).toNat + 1) F388854 0 (gB_w (gBl (show Int32.toInt 0 = 0 by decide)) (by decide) (by decide)) hT388867 hs388863 (by rw [ez388852]; rw [cB_of he388859, cB_of he388862, cB_of he388860]; exact pi_u hf388857 hf388843 (by omega) (by omega) cq388309) (by rw [cB_of he388862]; have q := td388866; have q2 := cq388310; omega) (by rw [cB_of he388862]; rw [cB_of he388301]; have q := td388866; omega) kp388864 kp388865 (Nat.lt_succ_self _)
        exact hlp70_388246 ((rcn (cB (F387278 (γ 9 18))) 2000) + 1) F387278 o387354 0 bo387354 (gB_w (gBl (show Int32.toInt 0 = 0 by decide)) (by decide) (by decide)) hT387279 hs387280 (by rw [cB_of he387335, cB_of he387338, cB_of he387341]; exact fun m s => Or.inl (cq387346 m (by have := s.1; omega) s)) (by have q := rcn_le (g := cB (F387278 (γ 9 18))) 2000; have qa : Int32.toInt 0 = 0 := (by decide); omega) x387355 x387356 x387282 x387283 (Nat.lt_succ_self _)
      · have r389131 : g387277.toInt < 2000 := gj_nleL hc387347 (show Int32.toInt 2000 = 2000 by decide)
        have bg387277' : gB g387277 0 1999 := ⟨by omega, by omega⟩
        refine G_aload_n 1 dr_cX17_colours_9 rfl ?_
        refine Gp_get 18 hm387287 he387288 dr_cX17_colours_10 (gk_X17 D I) (Nat.le_of_ble_eq_true rfl) wr_7_92 rfl ?_
        refine G_iload_n 0 dr_cX17_colours_13 rfl ?_
        refine G_aload_n 1 dr_cX17_colours_14 rfl ?_
        refine Gp_get 3 hm387287 he387288 dr_cX17_colours_15 (gk_X17 D I) (Nat.le_of_ble_eq_true rfl) wr_7_77 rfl ?_
        refine G_iload_n 0 dr_cX17_colours_18 rfl ?_
        refine Gp_zald 3 hm387334 he387335 dr_cX17_colours_19 rfl (gB_in bg387277' (by decide) (by decide)) (G_nam fun z389132 hz389132 => ?_)
        have bz389132 : gB z389132 0 1 := by rw [hz389132]; exact bf387336 _
        refine Gp_zast 3 hm387337 he387338 dr_cX17_colours_20 rfl (gB_in bg387277' (by decide) (by decide)) (fun F389133 e389134 n389135 => ?_)
        obtain ⟨f389136, hf389136⟩ : ∃ z, z = upd f387339 g387277.toNatClampNeg (vp_nar .boolean z389132) := ⟨_, rfl⟩
        rw [← hf389136] at e389134
        have he389137 : F389133 q375310 = .inr (22, [.ref (γ 9 0), .ref (γ 9 1), .ref (γ 9 2), .ref (γ 9 3), .ref (γ 9 4), .ref (γ 9 5), .ref (γ 9 6), .ref (γ 9 7), .ref (γ 9 8), .int p387291, .int p387292, .int p387293, .int p387294, .int p387295, .int p387296, .ref (γ 9 15), .ref (γ 9 16), .ref (γ 9 17), .ref (γ 9 18), .ref (γ 9 19), .ref (γ 9 20), .ref (γ 9 21), .ref (γ 9 22), .int p387297, .int p387298, .int p387299, .int p387300, .int p387301, .ref q387289, .ref (γ 9 29), .int p387302, .ref (γ 9 31), .int p387303, .int p387304, .int p387305, .ref q387290]) := (n389135 q375310 (rn_oa he387288 he387338)).trans he387288
        have he389138 : F389133 (γ 9 3) = .inl (I .boolean, 2000, .inl f387336) := (n389135 (γ 9 3) (rn_ty ht387311 ht387320 (by decide))).trans he387335
        have he389139 : F389133 (γ 9 15) = .inl (I .int, 2000, .inl f387342) := (n389135 (γ 9 15) (rn_ty ht387317 ht387320 (by decide))).trans he387341
        have he389140 : F389133 (γ 9 17) = .inl (I .int, 2000, .inl f387345) := (n389135 (γ 9 17) (rn_ty ht387319 ht387320 (by decide))).trans he387344
        have he389141 : F389133 (γ 9 18) = .inl (I .boolean, 2000, .inl f389136) := e389134
        have hs389142 : rStr γ [] F375309 F389133 := rStr_put hs387280 n389135 ht387320 (by decide)
        have kp389143 : F389133 q375310 = F375309 q375310 := (n389135 q375310 (rn_ty htq375310 ht387320 (by decide))).trans x387282
        have kp389144 : F389133 (γ 9 3) = F375309 (γ 9 3) := (n389135 (γ 9 3) (rn_ty ht387311 ht387320 (by decide))).trans x387283
        have bf389136 : gF f389136 0 1 := gF_upd hf389136 bf387339 bz389132
        refine G_aload_n 1 dr_cX17_colours_21 rfl ?_
        refine Gp_get 16 hm387287 he389137 dr_cX17_colours_22 (gk_X17 D I) (Nat.le_of_ble_eq_true rfl) wr_7_90 rfl ?_
        refine G_iload_n 0 dr_cX17_colours_25 rfl ?_
        refine G_aload_n 1 dr_cX17_colours_26 rfl ?_
        refine Gp_get 3 hm387287 he389137 dr_cX17_colours_27 (gk_X17 D I) (Nat.le_of_ble_eq_true rfl) wr_7_77 rfl ?_
        refine G_iload_n 0 dr_cX17_colours_30 rfl ?_
        refine Gp_zald 3 hm387334 he389138 dr_cX17_colours_31 rfl (gB_in bg387277' (by decide) (by decide)) (G_eqi (y := z389132) hz389132.symm ?_)
        refine G_if_eq 47 dr_cX17_colours_32 (by decide +kernel) (fun hc389145 => ?_) (fun hc389145 => ?_)
        · have r389146 : z389132.toInt = 0 := gj_eq hc389145 (show Int32.toInt 0 = 0 by decide)
          have bz389132' : gB z389132 0 0 := ⟨by omega, by omega⟩
          refine G_iconst 0 dr_cX17_colours_47 (by decide +kernel) ?_
          have hT389147 : RS D I P375308 F389133 γ el := RS_set hT387279 n389135 ht387320 (by decide) ⟨f389136, he389141, bf389136⟩
          have hm389148 : (γ 9 16) ∈ P375308 := RS_m hT389147 ht387318 (by decide)
          obtain ⟨f389150, he389149⟩ := show rk_19 I (F389133 (γ 9 16)) from RS_o hT389147 ht387318
          refine Gp_iast 0 hm389148 he389149 dr_cX17_colours_48 rfl (gB_in bg387277' (by decide) (by decide)) (fun F389151 e389152 n389153 => ?_)
          obtain ⟨f389154, hf389154⟩ : ∃ z, z = upd f389150 g387277.toNatClampNeg 0 := ⟨_, rfl⟩
          rw [← hf389154] at e389152
          have he389155 : F389151 q375310 = .inr (22, [.ref (γ 9 0), .ref (γ 9 1), .ref (γ 9 2), .ref (γ 9 3), .ref (γ 9 4), .ref (γ 9 5), .ref (γ 9 6), .ref (γ 9 7), .ref (γ 9 8), .int p387291, .int p387292, .int p387293, .int p387294, .int p387295, .int p387296, .ref (γ 9 15), .ref (γ 9 16), .ref (γ 9 17), .ref (γ 9 18), .ref (γ 9 19), .ref (γ 9 20), .ref (γ 9 21), .ref (γ 9 22), .int p387297, .int p387298, .int p387299, .int p387300, .int p387301, .ref q387289, .ref (γ 9 29), .int p387302, .ref (γ 9 31), .int p387303, .int p387304, .int p387305, .ref q387290]) := (n389153 q375310 (rn_oa he389137 he389149)).trans he389137
          have he389156 : F389151 (γ 9 3) = .inl (I .boolean, 2000, .inl f387336) := (n389153 (γ 9 3) (rn_ty ht387311 ht387318 (by decide))).trans he389138
          have he389157 : F389151 (γ 9 18) = .inl (I .boolean, 2000, .inl f389136) := (n389153 (γ 9 18) (rn_ty ht387320 ht387318 (by decide))).trans he389141
          have he389158 : F389151 (γ 9 15) = .inl (I .int, 2000, .inl f387342) := (n389153 (γ 9 15) (rn_ty ht387317 ht387318 (by decide))).trans he389139
          have he389159 : F389151 (γ 9 17) = .inl (I .int, 2000, .inl f387345) := (n389153 (γ 9 17) (rn_ty ht387319 ht387318 (by decide))).trans he389140
          have he389160 : F389151 (γ 9 16) = .inl (I .int, 2000, .inl f389154) := e389152
          have hs389161 : rStr γ [] F375309 F389151 := rStr_put hs389142 n389153 ht387318 (by decide)
          have kp389162 : F389151 q375310 = F375309 q375310 := (n389153 q375310 (rn_ty htq375310 ht387318 (by decide))).trans kp389143
          have kp389163 : F389151 (γ 9 3) = F375309 (γ 9 3) := (n389153 (γ 9 3) (rn_ty ht387311 ht387318 (by decide))).trans kp389144
          refine G_aload_n 1 dr_cX17_colours_49 rfl ?_
          refine Gp_get 17 hm387287 he389155 dr_cX17_colours_50 (gk_X17 D I) (Nat.le_of_ble_eq_true rfl) wr_7_91 rfl ?_
          refine G_iload_n 0 dr_cX17_colours_53 rfl ?_
          refine G_iconst (-1) dr_cX17_colours_54 (by decide +kernel) ?_
          have hT389164 : RS D I P375308 F389151 γ el := RS_set hT389147 n389153 ht387318 (by decide) ⟨f389154, he389160⟩
          refine Gp_iast 0 hm387343 he389159 dr_cX17_colours_55 rfl (gB_in bg387277' (by decide) (by decide)) (fun F389165 e389166 n389167 => ?_)
          obtain ⟨f389168, hf389168⟩ : ∃ z, z = upd f387345 g387277.toNatClampNeg (-1) := ⟨_, rfl⟩
          rw [← hf389168] at e389166
          have he389169 : F389165 q375310 = .inr (22, [.ref (γ 9 0), .ref (γ 9 1), .ref (γ 9 2), .ref (γ 9 3), .ref (γ 9 4), .ref (γ 9 5), .ref (γ 9 6), .ref (γ 9 7), .ref (γ 9 8), .int p387291, .int p387292, .int p387293, .int p387294, .int p387295, .int p387296, .ref (γ 9 15), .ref (γ 9 16), .ref (γ 9 17), .ref (γ 9 18), .ref (γ 9 19), .ref (γ 9 20), .ref (γ 9 21), .ref (γ 9 22), .int p387297, .int p387298, .int p387299, .int p387300, .int p387301, .ref q387289, .ref (γ 9 29), .int p387302, .ref (γ 9 31), .int p387303, .int p387304, .int p387305, .ref q387290]) := (n389167 q375310 (rn_oa he389155 he389159)).trans he389155
          have he389170 : F389165 (γ 9 3) = .inl (I .boolean, 2000, .inl f387336) := (n389167 (γ 9 3) (rn_ty ht387311 ht387319 (by decide))).trans he389156
          have he389171 : F389165 (γ 9 18) = .inl (I .boolean, 2000, .inl f389136) := (n389167 (γ 9 18) (rn_ty ht387320 ht387319 (by decide))).trans he389157
          have he389172 : F389165 (γ 9 15) = .inl (I .int, 2000, .inl f387342) := (n389167 (γ 9 15) (rn_ty ht387317 ht387319 (by decide))).trans he389158
          have he389173 : F389165 (γ 9 16) = .inl (I .int, 2000, .inl f389154) := (n389167 (γ 9 16) (rn_ty ht387318 ht387319 (by decide))).trans he389160
          have he389174 : F389165 (γ 9 17) = .inl (I .int, 2000, .inl f389168) := e389166
          have hs389175 : rStr γ [] F375309 F389165 := rStr_put hs389161 n389167 ht387319 (by decide)
          have kp389176 : F389165 q375310 = F375309 q375310 := (n389167 q375310 (rn_ty htq375310 ht387319 (by decide))).trans kp389162
          have kp389177 : F389165 (γ 9 3) = F375309 (γ 9 3) := (n389167 (γ 9 3) (rn_ty ht387311 ht387319 (by decide))).trans kp389163
          have bf389168 : gF f389168 (-1) 31 := gF_upd hf389168 bf387345 (gB_w (gBl (show Int32.toInt (-1) = (-1) by decide)) (by decide) (by decide))
          obtain ⟨z389178, hz389178⟩ : ∃ z : Int32, z = g387277 + Int32.ofInt 1 := ⟨_, rfl⟩
          have ez389178 : z389178.toInt = g387277.toInt + 1 := gI_inc hz389178 (by decide) bg387277' (by decide) (by decide)
          have bz389178 : gB z389178 1 2000 := ⟨by omega, by omega⟩
          refine G_iinc (L' := [(2, .int z389178), (0, .ref q375310), (1, .int p375311)]) z389178 0 dr_cX17_colours_56 rfl hz389178.symm (Nat.le_of_ble_eq_true rfl) rfl ?_
          refine G_goto 2 dr_cX17_colours_59 (by decide +kernel) ?_
          have hT389179 : RS D I P375308 F389165 γ el := RS_set hT389164 n389167 ht387319 (by decide) ⟨f389168, he389174, bf389168⟩
          exact ih2_387283 F389165 z389178 (gB_w bz389178 (by decide) (by decide)) hT389179 hs389175 (by rw [ez389178]; rw [cB_of he389170, cB_of he389171]; exact th_u hf389136 hz389132 (by assumption) (by omega) cq387346) kp389176 kp389177 (by omega)
        · have r389180 : z389132.toInt ≠ 0 := gj_neq hc389145 (show Int32.toInt 0 = 0 by decide)
          have bz389132' : gB z389132 1 1 := ⟨by omega, by omega⟩
          refine G_aload_n 1 dr_cX17_colours_35 rfl ?_
          refine Gp_get 1 hm387287 he389137 dr_cX17_colours_36 (gk_X17 D I) (Nat.le_of_ble_eq_true rfl) wr_7_75 rfl ?_
          refine G_iload_n 0 dr_cX17_colours_39 rfl ?_
          have hT389181 : RS D I P375308 F389133 γ el := RS_set hT387279 n389135 ht387320 (by decide) ⟨f389136, he389141, bf389136⟩
          have hm389182 : (γ 9 1) ∈ P375308 := RS_m hT389181 ht387309 (by decide)
          obtain ⟨f389184, he389183, hg389185⟩ := show rk_13 I γ (F389133 (γ 9 1)) from RS_o hT389181 ht387309
          obtain ⟨q389186, hx389188⟩ : ∃ x, x = γ 11 g387277.toInt.toNat := ⟨_, rfl⟩
          have ht389187 : rKd γ q389186 36 := by rw [hx389188]; exact (hg389185 _ (show g387277.toInt.toNat < 2000 by omega)).2.1
          refine Gp_aald 5 hm389182 he389183 dr_cX17_colours_40 rfl rfl (gB_in bg387277' (by decide) (by decide)) ?_
          rw [show f389184 g387277.toNatClampNeg = some q389186 from (hg389185 _ (show g387277.toInt.toNat < 2000 by omega)).1.trans (by rw [hx389188])]
          change G _ _ _ _ _ _ _ (.ref q389186 :: _) _ _ _
          have hm389189 : q389186 ∈ P375308 := RS_m hT389181 ht389187 (by decide)
          obtain ⟨f389191, he389190, wf389191⟩ := show rk_36 I (F389133 q389186) from RS_o hT389181 ht389187
          refine Gw_callS (As := [.ref q389186]) (gV_ok D I) (cp_1892_SpillForgeModel_count l hl0 D I P375308 F389133 q389186 f389191 hm389189 he389190) dr_cX17_colours_41 ⟨wr_11_16, wr_1_14, wr_11_18, by decide, rfl, (Nat.le_of_ble_eq_true rfl), (Nat.le_of_ble_eq_true rfl)⟩ wr_11_17 (show 0 + 0 ≤ 0 by first | omega | decide) (show 0 + 0 ≤ 0 by first | omega | decide) (Nat.le_of_ble_eq_true rfl) (fun r389195 w389196 dc389192 ds389193 hp389194 => ?_) (fun _ _ _ _ _ z => z.elim)
          obtain ⟨o389197, rfl, rfl, hdc, hds⟩ := hp389194
          have bo389197 := gB_any o389197
          change G _ _ _ _ _ _ _ (.int o389197 :: _) _ _ _
          refine G_widen (cs' := 0) (sl' := 0) (by omega) (by omega) ?_
          refine G_goto 48 dr_cX17_colours_44 (by decide +kernel) ?_
          have hm389198 : (γ 9 16) ∈ P375308 := RS_m hT389181 ht387318 (by decide)
          obtain ⟨f389200, he389199⟩ := show rk_19 I (F389133 (γ 9 16)) from RS_o hT389181 ht387318
          refine Gp_iast 0 hm389198 he389199 dr_cX17_colours_48 rfl (gB_in bg387277' (by decide) (by decide)) (fun F389201 e389202 n389203 => ?_)
          obtain ⟨f389204, hf389204⟩ : ∃ z, z = upd f389200 g387277.toNatClampNeg o389197 := ⟨_, rfl⟩
          rw [← hf389204] at e389202
          have he389205 : F389201 q375310 = .inr (22, [.ref (γ 9 0), .ref (γ 9 1), .ref (γ 9 2), .ref (γ 9 3), .ref (γ 9 4), .ref (γ 9 5), .ref (γ 9 6), .ref (γ 9 7), .ref (γ 9 8), .int p387291, .int p387292, .int p387293, .int p387294, .int p387295, .int p387296, .ref (γ 9 15), .ref (γ 9 16), .ref (γ 9 17), .ref (γ 9 18), .ref (γ 9 19), .ref (γ 9 20), .ref (γ 9 21), .ref (γ 9 22), .int p387297, .int p387298, .int p387299, .int p387300, .int p387301, .ref q387289, .ref (γ 9 29), .int p387302, .ref (γ 9 31), .int p387303, .int p387304, .int p387305, .ref q387290]) := (n389203 q375310 (rn_oa he389137 he389199)).trans he389137
          have he389206 : F389201 (γ 9 3) = .inl (I .boolean, 2000, .inl f387336) := (n389203 (γ 9 3) (rn_ty ht387311 ht387318 (by decide))).trans he389138
          have he389207 : F389201 (γ 9 18) = .inl (I .boolean, 2000, .inl f389136) := (n389203 (γ 9 18) (rn_ty ht387320 ht387318 (by decide))).trans he389141
          have he389208 : F389201 (γ 9 15) = .inl (I .int, 2000, .inl f387342) := (n389203 (γ 9 15) (rn_ty ht387317 ht387318 (by decide))).trans he389139
          have he389209 : F389201 (γ 9 17) = .inl (I .int, 2000, .inl f387345) := (n389203 (γ 9 17) (rn_ty ht387319 ht387318 (by decide))).trans he389140
          have he389210 : F389201 (γ 9 1) = .inl (I (.array .long), 2000, .inr (.inr (.inr (.inr f389184)))) := (n389203 (γ 9 1) (rn_ref_num he389183 he389199)).trans he389183
          have he389211 : F389201 q389186 = .inl (I .long, 32, .inr (.inl f389191)) := (n389203 q389186 (rn_long_num he389190 he389199)).trans he389190
          have he389212 : F389201 (γ 9 16) = .inl (I .int, 2000, .inl f389204) := e389202
          have hs389213 : rStr γ [] F375309 F389201 := rStr_put hs389142 n389203 ht387318 (by decide)
          have kp389214 : F389201 q375310 = F375309 q375310 := (n389203 q375310 (rn_ty htq375310 ht387318 (by decide))).trans kp389143
          have kp389215 : F389201 (γ 9 3) = F375309 (γ 9 3) := (n389203 (γ 9 3) (rn_ty ht387311 ht387318 (by decide))).trans kp389144
          refine G_aload_n 1 dr_cX17_colours_49 rfl ?_
          refine Gp_get 17 hm387287 he389205 dr_cX17_colours_50 (gk_X17 D I) (Nat.le_of_ble_eq_true rfl) wr_7_91 rfl ?_
          refine G_iload_n 0 dr_cX17_colours_53 rfl ?_
          refine G_iconst (-1) dr_cX17_colours_54 (by decide +kernel) ?_
          have hT389216 : RS D I P375308 F389201 γ el := RS_set hT389181 n389203 ht387318 (by decide) ⟨f389204, he389212⟩
          refine Gp_iast 0 hm387343 he389209 dr_cX17_colours_55 rfl (gB_in bg387277' (by decide) (by decide)) (fun F389217 e389218 n389219 => ?_)
          obtain ⟨f389220, hf389220⟩ : ∃ z, z = upd f387345 g387277.toNatClampNeg (-1) := ⟨_, rfl⟩
          rw [← hf389220] at e389218
          have he389221 : F389217 q375310 = .inr (22, [.ref (γ 9 0), .ref (γ 9 1), .ref (γ 9 2), .ref (γ 9 3), .ref (γ 9 4), .ref (γ 9 5), .ref (γ 9 6), .ref (γ 9 7), .ref (γ 9 8), .int p387291, .int p387292, .int p387293, .int p387294, .int p387295, .int p387296, .ref (γ 9 15), .ref (γ 9 16), .ref (γ 9 17), .ref (γ 9 18), .ref (γ 9 19), .ref (γ 9 20), .ref (γ 9 21), .ref (γ 9 22), .int p387297, .int p387298, .int p387299, .int p387300, .int p387301, .ref q387289, .ref (γ 9 29), .int p387302, .ref (γ 9 31), .int p387303, .int p387304, .int p387305, .ref q387290]) := (n389219 q375310 (rn_oa he389205 he389209)).trans he389205
          have he389222 : F389217 (γ 9 3) = .inl (I .boolean, 2000, .inl f387336) := (n389219 (γ 9 3) (rn_ty ht387311 ht387319 (by decide))).trans he389206
          have he389223 : F389217 (γ 9 18) = .inl (I .boolean, 2000, .inl f389136) := (n389219 (γ 9 18) (rn_ty ht387320 ht387319 (by decide))).trans he389207
          have he389224 : F389217 (γ 9 15) = .inl (I .int, 2000, .inl f387342) := (n389219 (γ 9 15) (rn_ty ht387317 ht387319 (by decide))).trans he389208
          have he389225 : F389217 (γ 9 1) = .inl (I (.array .long), 2000, .inr (.inr (.inr (.inr f389184)))) := (n389219 (γ 9 1) (rn_ref_num he389210 he389209)).trans he389210
          have he389226 : F389217 q389186 = .inl (I .long, 32, .inr (.inl f389191)) := (n389219 q389186 (rn_long_num he389211 he389209)).trans he389211
          have he389227 : F389217 (γ 9 16) = .inl (I .int, 2000, .inl f389204) := (n389219 (γ 9 16) (rn_ty ht387318 ht387319 (by decide))).trans he389212
          have he389228 : F389217 (γ 9 17) = .inl (I .int, 2000, .inl f389220) := e389218
          have hs389229 : rStr γ [] F375309 F389217 := rStr_put hs389213 n389219 ht387319 (by decide)
          have kp389230 : F389217 q375310 = F375309 q375310 := (n389219 q375310 (rn_ty htq375310 ht387319 (by decide))).trans kp389214
          have kp389231 : F389217 (γ 9 3) = F375309 (γ 9 3) := (n389219 (γ 9 3) (rn_ty ht387311 ht387319 (by decide))).trans kp389215
          have bf389220 : gF f389220 (-1) 31 := gF_upd hf389220 bf387345 (gB_w (gBl (show Int32.toInt (-1) = (-1) by decide)) (by decide) (by decide))
          obtain ⟨z389232, hz389232⟩ : ∃ z : Int32, z = g387277 + Int32.ofInt 1 := ⟨_, rfl⟩
          have ez389232 : z389232.toInt = g387277.toInt + 1 := gI_inc hz389232 (by decide) bg387277' (by decide) (by decide)
          have bz389232 : gB z389232 1 2000 := ⟨by omega, by omega⟩
          refine G_iinc (L' := [(2, .int z389232), (0, .ref q375310), (1, .int p375311)]) z389232 0 dr_cX17_colours_56 rfl hz389232.symm (Nat.le_of_ble_eq_true rfl) rfl ?_
          refine G_goto 2 dr_cX17_colours_59 (by decide +kernel) ?_
          have hT389233 : RS D I P375308 F389217 γ el := RS_set hT389216 n389219 ht387319 (by decide) ⟨f389220, he389228, bf389220⟩
          exact ih2_387283 F389217 z389232 (gB_w bz389232 (by decide) (by decide)) hT389233 hs389229 (by rw [ez389232]; rw [cB_of he389222, cB_of he389223]; exact th_u hf389136 hz389132 (by assumption) (by omega) cq387346) kp389230 kp389231 (by omega)
  exact hlp2_387283 (((2001 : Int) - 0).toNat + 1) F375309 0 (gB_w (gBl (show Int32.toInt 0 = 0 by decide)) (by decide) (by decide)) hT (rStr_rf (γ := γ) (W := []) (F := F375309)) (fun m hm => absurd hm (by have qa : Int32.toInt 0 = 0 := (by decide); omega)) rfl rfl (Nat.lt_succ_self _)
